def zI1 (M : zM) (k : Nat) (m lo hi : Int32) : Prop := m = zit (bX3_inBlocks_4 M 0) k 0 ∧ (0 ≤ lo.toInt ∧ lo.toInt ≤ 400 ∧ ∀ b, b < k → lo.toInt ≤ (rX0_warmth M b).toInt) ∧ (0 ≤ hi.toInt ∧ hi.toInt ≤ 500000 ∧ ∀ b, b < k → (rX0_warmth M b).toInt ≤ hi.toInt)
theorem zI1_0 (M : zM) : zI1 M 0 0 400 0 := ⟨(zit_0 _ _).symm, ⟨by decide, by decide, fun b hb => absurd hb (Nat.not_lt_zero b)⟩, ⟨by decide, by decide, fun b hb => absurd hb (Nat.not_lt_zero b)⟩⟩
theorem zI1_s {n : Nat} {t : Int} {M : zM} (hI : zInv n t M) {k : Nat} (hk : k < n) {m lo hi w v : Int32} (h : zI1 M k m lo hi) (hw : w = M (30 + k) 0) (hv : v = rX0_warmth M k) : zI1 M (k + 1) (m + w) (if v < lo then v else lo) (if hi < v then v else hi) := by
  obtain ⟨-, hn, hP, -⟩ := hI
  have hb := hP.bk hk
  have b1 := hb.warm_b.1
  have b2 := hb.warm_u
  rw [← hv] at b1 b2
  obtain ⟨h1, ⟨l1, l2, l3⟩, ⟨g1, g2, g3⟩⟩ := h
  refine ⟨?_, ⟨?_, ?_, fun b hb => ?_⟩, ⟨?_, ?_, fun b hb => ?_⟩⟩
  · rw [zit_s, ← h1, hw]; rfl
  · rw [q_ite]; split <;> omega
  · rw [q_ite]; simp only [Int32.lt_iff_toInt_lt]; split <;> omega
  · by_cases e : b = k
    · subst e
      rw [← hv, q_ite]; simp only [Int32.lt_iff_toInt_lt]; split <;> omega
    · have := l3 b (by omega)
      rw [q_ite]; simp only [Int32.lt_iff_toInt_lt]; split <;> omega
  · rw [q_ite]; simp only [Int32.lt_iff_toInt_lt]; split <;> omega
  · rw [q_ite]; simp only [Int32.lt_iff_toInt_lt]; split <;> omega
  · by_cases e : b = k
    · subst e
      rw [← hv, q_ite]; simp only [Int32.lt_iff_toInt_lt]; split <;> omega
    · have := g3 b (by omega)
      rw [q_ite]; simp only [Int32.lt_iff_toInt_lt]; split <;> omega
theorem q_w3 {n : Nat} {t : Int} {M : zM} (hI : zInv n t M) {k : Nat} (hk : k < zc12 M) : (¬ (9 : Int32) < M (60 + k) 3) ∧ (¬ (4 : Int32) < M (60 + k) 4) ∧ (¬ M (60 + k) 5 < M (60 + k) 6) ∧ (¬ M (60 + k) 8 < M (60 + k) 5) ∧ (0 : Int32) ≤ M (60 + k) 7 := by
  obtain ⟨-, -, -, -, -, hW, -⟩ := hI
  obtain ⟨⟨-, -, -, h3, h4⟩, ⟨d1, d2, d3, d4, d5, -⟩⟩ := hW k hk
  simp only [Int32.lt_iff_toInt_lt, Int32.le_iff_toInt_le, Int32.toInt_zero, show (9 : Int32).toInt = 9 from rfl, show (4 : Int32).toInt = 4 from rfl]
  omega
theorem q_st {n : Nat} {t : Int} {M : zM} (hI : zInv n t M) (ht : t ≤ 100) (h6 : zc12 M ≤ 6) {k : Nat} (hk : k < zc12 M) {a w : Int32} (h : a.toInt = zS (fun w => (M (60 + w) 6).toInt) k) (hw : w = M (60 + k) 6) : (a + w).toInt = zS (fun w => (M (60 + w) 6).toInt) (k + 1) := by
  obtain ⟨-, -, -, -, -, hW, -⟩ := hI
  have hs := zS_bnd (f := fun w => (M (60 + w) 6).toInt) (A := 0) (B := 1000000) (n := k) (fun b hb => by have := (hW b (by omega)).2; unfold zWd at this; omega)
  have h1 := (hW k hk).2
  unfold zWd at h1
  rw [hw, fb_addI (by omega) (by omega), h, zS]
theorem q_s3 {n : Nat} {t : Int} {M : zM} (hI : zInv n t M) {k : Nat} (hk : k < zc13 M) : (¬ M (70 + k) 3 < 0) ∧ (¬ M (70 + k) 4 < 0) ∧ (¬ (50 : Int32) < M (70 + k) 4) ∧ M (70 + k) 3 ≤ M (70 + k) 5 := by
  obtain ⟨-, -, -, -, -, -, hS, -⟩ := hI
  obtain ⟨-, -, -, h3, h4, h5⟩ := hS k hk
  simp only [Int32.lt_iff_toInt_lt, Int32.le_iff_toInt_le, Int32.toInt_zero, show (50 : Int32).toInt = 50 from rfl]
  omega
theorem q_fl {n : Nat} {t : Int} {M : zM} (hI : zInv n t M) (h3 : zc13 M ≤ 3) {k : Nat} (hk : k < zc13 M) {a w : Int32} (h : a.toInt = zS (fun s => (M (70 + s) 5).toInt) k) (hw : w = M (70 + k) 5) : (a + w).toInt = zS (fun s => (M (70 + s) 5).toInt) (k + 1) := by
  obtain ⟨-, hn, hP, -, -, -, hS, hsum, -⟩ := hI
  have h13 := (hP.S (q := 0) (by decide)).2.2.2 (by decide)
  have h12 := (hP.S (q := 0) (by decide))
  have hz : zB 0 = 10000 := rfl
  have hb : ∀ b, b < zc13 M → 0 ≤ (M (70 + b) 5).toInt ∧ (M (70 + b) 5).toInt ≤ 10000 := fun b hb => by
    have h4 := zS_le (f := fun s => (M (70 + s) 5).toInt) (n := zc13 M) (b := b) hb (fun s hs => by have := (hS s hs); unfold zSp at this; omega)
    have := hS b hb
    unfold zSp at this
    omega
  have hs := zS_bnd (f := fun s => (M (70 + s) 5).toInt) (A := 0) (B := 10000) (n := k) (fun b hb' => hb b (by omega))
  have h1 := hb k hk
  rw [hw, fb_addI (by omega) (by omega), h, zS]
theorem q_f3 {n : Nat} {t : Int} {M : zM} (hI : zInv n t M) {k : Nat} (hk : k < zc11 M) : (¬ M (40 + k) 2 < 1) ∧ M (40 + k) 2 ≤ 9 := by
  obtain ⟨-, -, -, -, hF, -⟩ := hI
  obtain ⟨-, -, -, h3⟩ := hF k hk
  simp only [Int32.lt_iff_toInt_lt, Int32.le_iff_toInt_le, Int32.toInt_one, show (9 : Int32).toInt = 9 from rfl]
  omega
theorem q_p500 {n : Nat} {t : Int} {M : zM} (hI : zInv n t M) : ¬ (500 : Int32) < M 5 0 := by
  have := hI.2.2.2.1
  simp only [Int32.lt_iff_toInt_lt, show (500 : Int32).toInt = 500 from rfl]
  omega
theorem q_m6 {n : Nat} {t : Int} {M : zM} (hI : zInv n t M) {a : Int32} (h : a.toInt = zS (fun s => (M (70 + s) 5).toInt) (zc13 M)) : M 13 0 = a := by
  obtain ⟨-, -, -, -, -, -, -, hsum, -⟩ := hI
  apply Int32.toInt_inj.mp
  rw [h, hsum]
theorem q_pw {n : Nat} {t : Int} {M : zM} (hI : zInv n t M) (ht : t ≤ 100) (h6 : zc12 M ≤ 6) {a : Int32} (h : a.toInt = zS (fun w => (M (60 + w) 6).toInt) (zc12 M)) : ¬ 2 * a < M 6 2 := by
  obtain ⟨-, -, -, -, -, hW, -, -, -, -, -, -, -, hlast⟩ := hI
  have hs := zS_bnd (f := fun w => (M (60 + w) 6).toInt) (A := 0) (B := 1000000) (n := zc12 M) (fun b hb => by have := (hW b (by omega)).2; unfold zWd at this; omega)
  have h2 : (2 : Int32).toInt = 2 := rfl
  have h1 : (2 * a).toInt = 2 * a.toInt := by rw [fb_mulI (by rw [h2]; omega) (by rw [h2]; omega), h2]
  rw [Int32.lt_iff_toInt_lt, h1, h]
  omega
theorem q_mlo {n : Nat} {t : Int} {M : zM} (hI : zInv n t M) {m lo hi : Int32} (h : zI1 M n m lo hi) {S V : Int64} (hS : S.toInt = zS (fun b => (rX0_warmth M b).toInt * (M (20 + b) 1).toInt) n) (hV : V.toInt = zS (fun b => (M (20 + b) 1).toInt) n) : lo.toInt * V.toInt ≤ S.toInt ∧ S.toInt ≤ hi.toInt * V.toInt := by
  obtain ⟨-, hn, hP, -⟩ := hI
  obtain ⟨-, ⟨-, -, l3⟩, ⟨-, -, g3⟩⟩ := h
  rw [hS, hV]
  exact ⟨zS_mul_le l3 (fun b hb => by have := (hP.bk hb).1; omega), zS_le_mul g3 (fun b hb => by have := (hP.bk hb).1; omega)⟩
set_option maxHeartbeats 4000000 in
set_option maxRecDepth 100000 in
theorem m_L_isSo (l : Launch) (dC : Nat → ClassId) (dI : Nat → Nat → Nat) (ca : Nat → ClassId) (sf : Nat) (ad : Nat → Nat) (hI : z_I zd ad) (ad2 : Nat → Nat) (hI2 : z_I zd ad2) (hq : zSep sf ad ad2) (M : zM) (N : zM) (nb : Nat) (tt : Int) (a0 : Int32) (a1 : Int32) (a2 : Int32) (hOk0 : z_Ok M) (hInv : zInv nb tt M) (h_n : 1 ≤ nb) (h_t : 0 ≤ tt ∧ tt ≤ 100) (h_a0 : a0 = nI (zc10 M)) (h_a1 : a1 = nI (zc12 M)) (h_a2 : a2 = nI (zc13 M)) : Met l yL_isSo wsL_isSo ({ frames := 4, cells := 0, slots := 0, locals := 86 }) (z_Pc (dC, dI) vwCl (zt ca) zw_nest [.ref sf, .int a0, .int a1, .int a2] (fun H => zT dC dI ca sf (ad 0) (ad2 0) H ∧ zW dC dI ca ad M H ∧ zW dC dI ca ad2 N H)) (z_Qi 1 (fun H => zT dC dI ca sf (ad 0) (ad2 0) H ∧ zW dC dI ca ad M H ∧ zW dC dI ca ad2 N H) (zA2 ad ad2)) 0 0 (zA2 ad ad2) := by
  refine Met.ofW (cc := cL_isSo) (maxL := 12) (ret := (some .boolean)) (by decide) rfl ?_
  intro p e s m args below meth c s₁ B9 hml hv
  obtain ⟨rfl, ⟨hT, hH, hG⟩, hK, hN⟩ := hv
  have hx := B9.exec
  have hb := B9.bytes
  have hr := B9.returns
  have hts := atoms_spec (ws := wsL_isSo) B9.pre
  have hown : s.vm.findClass RL = some m.cls := findClass_of_methodNamed B9.named
  have hlocks := B9.notSynchronized
  have hS : va_S (zA2 ad ad2) s.heap s.heap [] := va_S.rf
  have hOk := hOk0
  have hFx : z_Fx M M := z_Fx.rf
  have hT : zT dC dI ca sf (ad 0) (ad2 0) s.heap := hT
  have hH : zW dC dI ca ad M s.heap := hH
  have hG : zW dC dI ca ad2 N s.heap := hG
  have hl := lv_entry ([.ref sf, .int a0, .int a1, .int a2]) (n := 12) (Nat.le_of_ble_eq_true rfl)
  rw [lg_entry_eq]
  generalize (lg_sl ([.ref sf, .int a0, .int a1, .int a2]) ++ List.replicate (12 - (lg_sl ([.ref sf, .int a0, .int a1, .int a2])).length) Slot.unset).toArray = ls at hl ⊢
  have hl : lv_has ls 12 [(0, .ref sf), (1, .int a0), (2, .int a1), (3, .int a2)] := hl
  refine lv_iconst (v := 0) hx hb dL_isSo_0 (by decide) ?_
  refine lv_istore (lv' := [(4, .int 0), (0, .ref sf), (1, .int a0), (2, .int a1), (3, .int a2)]) hx hb dL_isSo_1 hl (by decide) rfl (fun ls hl => ?_)
  refine lv_sipush (v := 400) hx hb dL_isSo_3 (by decide) ?_
  refine lv_istore (lv' := [(5, .int 400), (4, .int 0), (0, .ref sf), (1, .int a0), (2, .int a1), (3, .int a2)]) hx hb dL_isSo_6 hl (by decide) rfl (fun ls hl => ?_)
  refine lv_iconst (v := 0) hx hb dL_isSo_8 (by decide) ?_
  refine lv_istore (lv' := [(6, .int 0), (5, .int 400), (4, .int 0), (0, .ref sf), (1, .int a0), (2, .int a1), (3, .int a2)]) hx hb dL_isSo_9 hl (by decide) rfl (fun ls hl => ?_)
  refine lv_iconst (v := 0) hx hb dL_isSo_11 (by decide) ?_
  refine lv_istore (lv' := [(7, .int 0), (6, .int 0), (5, .int 400), (4, .int 0), (0, .ref sf), (1, .int a0), (2, .int a1), (3, .int a2)]) hx hb dL_isSo_12 hl (by decide) rfl (fun ls hl => ?_)
  have L7 : ∀ (d3 k1 : Nat), k1 ≤ (zc10 M) → (zc10 M) - k1 < d3 → ∀ a4 : Int32, ∀ a5 : Int32, ∀ a6 : Int32, (zI1 M k1 a4 a5 a6) → ∀ i2 : Int32, i2 = nI k1 → ∀ ls : Array Slot, lv_has ls 12 [(0, .ref sf), (1, .int a0), (2, .int a1), (3, .int a2), (4, .int a4), (5, .int a5), (6, .int a6), (7, .int i2)] → ∀ (H : Heap) (locs : List Loc), zT dC dI ca sf (ad 0) (ad2 0) H → zW dC dI ca ad M H → zW dC dI ca ad2 N H → va_S (zA2 ad ad2) s.heap H locs → W p l e (headSpec wsL_isSo ({ frames := 4, cells := 0, slots := 0, locals := 86 })).room s m ([.ref sf, .int a0, .int a1, .int a2] : List Value).toArray below meth c H locs 0 0 (MQ below (z_Qi 1 (fun H => zT dC dI ca sf (ad 0) (ad2 0) H ∧ zW dC dI ca ad M H ∧ zW dC dI ca ad2 N H) (zA2 ad ad2)) ([.ref sf, .int a0, .int a1, .int a2] : List Value).toArray s 0 0 (zA2 ad ad2)) (F0 m 14 ls []) := by
    intro d3
    induction d3 with
    | zero => intro k1 hk1 hd; exact absurd hd (by omega)
    | succ d3 ihk1 =>
      intro k1 hk1 hd a4 a5 a6 vk1 i2 ei2 ls hl H locs hT hH hG hS
      refine lv_iload hx hb dL_isSo_14 (lv_at hl 7 rfl) ?_
      refine lv_iload_n hx hb dL_isSo_16 rfl (lv_at hl 1 rfl) ?_
      refine lv_icmp_ge (tgt := 95) hx hb dL_isSo_17 (by decide) (fun c8 => ?_) (fun c8 => ?_)
      · have hkk1 : k1 = (zc10 M) := z_ge h_a0 ei2 hk1 (Nat.lt_of_le_of_lt (z_Ok.n10 hOk0) (by decide)) c8
        rw [hkk1] at vk1
        have w1 := vk1
        rw [hInv.1] at w1
        refine lv_iconst (v := 0) hx hb dL_isSo_95 (by decide) ?_
        refine lv_istore (lv' := [(7, .int 0), (0, .ref sf), (1, .int a0), (2, .int a1), (3, .int a2), (4, .int a4), (5, .int a5), (6, .int a6)]) hx hb dL_isSo_96 hl (by decide) rfl (fun ls hl => ?_)
        have L12 : ∀ (d11 k9 : Nat), k9 ≤ 4 → 4 - k9 < d11 → (True) → ∀ i10 : Int32, i10 = nI k9 → ∀ ls : Array Slot, lv_has ls 12 [(0, .ref sf), (1, .int a0), (2, .int a1), (3, .int a2), (4, .int a4), (5, .int a5), (6, .int a6), (7, .int i10)] → ∀ (H : Heap) (locs : List Loc), zT dC dI ca sf (ad 0) (ad2 0) H → zW dC dI ca ad M H → zW dC dI ca ad2 N H → va_S (zA2 ad ad2) s.heap H locs → W p l e (headSpec wsL_isSo ({ frames := 4, cells := 0, slots := 0, locals := 86 })).room s m ([.ref sf, .int a0, .int a1, .int a2] : List Value).toArray below meth c H locs 0 0 (MQ below (z_Qi 1 (fun H => zT dC dI ca sf (ad 0) (ad2 0) H ∧ zW dC dI ca ad M H ∧ zW dC dI ca ad2 N H) (zA2 ad ad2)) ([.ref sf, .int a0, .int a1, .int a2] : List Value).toArray s 0 0 (zA2 ad ad2)) (F0 m 98 ls []) := by
          intro d11
          induction d11 with
          | zero => intro k9 hk9 hd; exact absurd hd (by omega)
          | succ d11 ihk9 =>
            intro k9 hk9 hd vk9 i10 ei10 ls hl H locs hT hH hG hS
            refine lv_iload hx hb dL_isSo_98 (lv_at hl 7 rfl) ?_
            refine lv_iconst (v := 4) hx hb dL_isSo_100 (by decide) ?_
            refine lv_icmp_ge (tgt := 121) hx hb dL_isSo_101 (by decide) (fun c13 => ?_) (fun c13 => ?_)
            · have hkk9 : k9 = 4 := z_ge rfl ei10 hk9 (by decide) c13
              refine lv_iconst (v := 0) hx hb dL_isSo_121 (by decide) ?_
              refine lv_istore (lv' := [(7, .int 0), (0, .ref sf), (1, .int a0), (2, .int a1), (3, .int a2), (4, .int a4), (5, .int a5), (6, .int a6)]) hx hb dL_isSo_122 hl (by decide) rfl (fun ls hl => ?_)
              refine lv_iconst (v := 0) hx hb dL_isSo_124 (by decide) ?_
              refine lv_istore (lv' := [(8, .int 0), (7, .int 0), (0, .ref sf), (1, .int a0), (2, .int a1), (3, .int a2), (4, .int a4), (5, .int a5), (6, .int a6)]) hx hb dL_isSo_125 hl (by decide) rfl (fun ls hl => ?_)
              have L18 : ∀ (d16 k14 : Nat), k14 ≤ (zc12 M) → (zc12 M) - k14 < d16 → ∀ a17 : Int32, (a17.toInt = zS (fun w => (M (60 + w) 6).toInt) k14) → ∀ i15 : Int32, i15 = nI k14 → ∀ ls : Array Slot, lv_has ls 12 [(0, .ref sf), (1, .int a0), (2, .int a1), (3, .int a2), (4, .int a4), (5, .int a5), (6, .int a6), (7, .int a17), (8, .int i15)] → ∀ (H : Heap) (locs : List Loc), zT dC dI ca sf (ad 0) (ad2 0) H → zW dC dI ca ad M H → zW dC dI ca ad2 N H → va_S (zA2 ad ad2) s.heap H locs → W p l e (headSpec wsL_isSo ({ frames := 4, cells := 0, slots := 0, locals := 86 })).room s m ([.ref sf, .int a0, .int a1, .int a2] : List Value).toArray below meth c H locs 0 0 (MQ below (z_Qi 1 (fun H => zT dC dI ca sf (ad 0) (ad2 0) H ∧ zW dC dI ca ad M H ∧ zW dC dI ca ad2 N H) (zA2 ad ad2)) ([.ref sf, .int a0, .int a1, .int a2] : List Value).toArray s 0 0 (zA2 ad ad2)) (F0 m 127 ls []) := by
                intro d16
                induction d16 with
                | zero => intro k14 hk14 hd; exact absurd hd (by omega)
                | succ d16 ihk14 =>
                  intro k14 hk14 hd a17 vk14 i15 ei15 ls hl H locs hT hH hG hS
                  refine lv_iload hx hb dL_isSo_127 (lv_at hl 8 rfl) ?_
                  refine lv_iload_n hx hb dL_isSo_129 rfl (lv_at hl 2 rfl) ?_
                  refine lv_icmp_ge (tgt := 224) hx hb dL_isSo_130 (by decide) (fun c19 => ?_) (fun c19 => ?_)
                  · have hkk14 : k14 = (zc12 M) := z_ge h_a1 ei15 hk14 (Nat.lt_of_le_of_lt (z_Ok.n12 hOk0) (by decide)) c19
                    rw [hkk14] at vk14
                    have w3 := vk14
                    refine lv_iconst (v := 0) hx hb dL_isSo_224 (by decide) ?_
                    refine lv_istore (lv' := [(8, .int 0), (0, .ref sf), (1, .int a0), (2, .int a1), (3, .int a2), (4, .int a4), (5, .int a5), (6, .int a6), (7, .int a17)]) hx hb dL_isSo_225 hl (by decide) rfl (fun ls hl => ?_)
                    refine lv_iconst (v := 0) hx hb dL_isSo_227 (by decide) ?_
                    refine lv_istore (lv' := [(9, .int 0), (8, .int 0), (0, .ref sf), (1, .int a0), (2, .int a1), (3, .int a2), (4, .int a4), (5, .int a5), (6, .int a6), (7, .int a17)]) hx hb dL_isSo_228 hl (by decide) rfl (fun ls hl => ?_)
                    refine lv_iconst (v := 0) hx hb dL_isSo_230 (by decide) ?_
                    refine lv_istore (lv' := [(10, .int 0), (9, .int 0), (8, .int 0), (0, .ref sf), (1, .int a0), (2, .int a1), (3, .int a2), (4, .int a4), (5, .int a5), (6, .int a6), (7, .int a17)]) hx hb dL_isSo_231 hl (by decide) rfl (fun ls hl => ?_)
                    have L25 : ∀ (d22 k20 : Nat), k20 ≤ (zc13 M) → (zc13 M) - k20 < d22 → ∀ a23 : Int32, ∀ a24 : Int32, (a23.toInt = zS (fun s => (M (70 + s) 5).toInt) k20 ∧ a24 = zit (bX3_lackedEver_4 M) k20 0) → ∀ i21 : Int32, i21 = nI k20 → ∀ ls : Array Slot, lv_has ls 12 [(0, .ref sf), (1, .int a0), (2, .int a1), (3, .int a2), (4, .int a4), (5, .int a5), (6, .int a6), (7, .int a17), (8, .int a23), (9, .int a24), (10, .int i21)] → ∀ (H : Heap) (locs : List Loc), zT dC dI ca sf (ad 0) (ad2 0) H → zW dC dI ca ad M H → zW dC dI ca ad2 N H → va_S (zA2 ad ad2) s.heap H locs → W p l e (headSpec wsL_isSo ({ frames := 4, cells := 0, slots := 0, locals := 86 })).room s m ([.ref sf, .int a0, .int a1, .int a2] : List Value).toArray below meth c H locs 0 0 (MQ below (z_Qi 1 (fun H => zT dC dI ca sf (ad 0) (ad2 0) H ∧ zW dC dI ca ad M H ∧ zW dC dI ca ad2 N H) (zA2 ad ad2)) ([.ref sf, .int a0, .int a1, .int a2] : List Value).toArray s 0 0 (zA2 ad ad2)) (F0 m 233 ls []) := by
                      intro d22
                      induction d22 with
                      | zero => intro k20 hk20 hd; exact absurd hd (by omega)
                      | succ d22 ihk20 =>
                        intro k20 hk20 hd a23 a24 vk20 i21 ei21 ls hl H locs hT hH hG hS
                        refine lv_iload hx hb dL_isSo_233 (lv_at hl 10 rfl) ?_
                        refine lv_iload_n hx hb dL_isSo_235 rfl (lv_at hl 3 rfl) ?_
                        refine lv_icmp_ge (tgt := 320) hx hb dL_isSo_236 (by decide) (fun c26 => ?_) (fun c26 => ?_)
                        · have hkk20 : k20 = (zc13 M) := z_ge h_a2 ei21 hk20 (Nat.lt_of_le_of_lt (z_Ok.n13 hOk0) (by decide)) c26
                          rw [hkk20] at vk20
                          have w4 := vk20
                          refine lv_iconst (v := 0) hx hb dL_isSo_320 (by decide) ?_
                          refine lv_istore (lv' := [(10, .int 0), (0, .ref sf), (1, .int a0), (2, .int a1), (3, .int a2), (4, .int a4), (5, .int a5), (6, .int a6), (7, .int a17), (8, .int a23), (9, .int a24)]) hx hb dL_isSo_321 hl (by decide) rfl (fun ls hl => ?_)
                          have L30 : ∀ (d29 k27 : Nat), k27 ≤ (zc11 M) → (zc11 M) - k27 < d29 → (True) → ∀ i28 : Int32, i28 = nI k27 → ∀ ls : Array Slot, lv_has ls 12 [(0, .ref sf), (1, .int a0), (2, .int a1), (3, .int a2), (4, .int a4), (5, .int a5), (6, .int a6), (7, .int a17), (8, .int a23), (9, .int a24), (10, .int i28)] → ∀ (H : Heap) (locs : List Loc), zT dC dI ca sf (ad 0) (ad2 0) H → zW dC dI ca ad M H → zW dC dI ca ad2 N H → va_S (zA2 ad ad2) s.heap H locs → W p l e (headSpec wsL_isSo ({ frames := 4, cells := 0, slots := 0, locals := 86 })).room s m ([.ref sf, .int a0, .int a1, .int a2] : List Value).toArray below meth c H locs 0 0 (MQ below (z_Qi 1 (fun H => zT dC dI ca sf (ad 0) (ad2 0) H ∧ zW dC dI ca ad M H ∧ zW dC dI ca ad2 N H) (zA2 ad ad2)) ([.ref sf, .int a0, .int a1, .int a2] : List Value).toArray s 0 0 (zA2 ad ad2)) (F0 m 323 ls []) := by
                            intro d29
                            induction d29 with
                            | zero => intro k27 hk27 hd; exact absurd hd (by omega)
                            | succ d29 ihk27 =>
                              intro k27 hk27 hd vk27 i28 ei28 ls hl H locs hT hH hG hS
                              refine lv_iload hx hb dL_isSo_323 (lv_at hl 10 rfl) ?_
                              refine lv_aload_n hx hb dL_isSo_325 rfl (lv_at hl 0 rfl) ?_
                              refine lv_iconst (v := 1) hx hb dL_isSo_326 (by decide) ?_
                              refine z_cVi (D := (dC, dI)) (cl := vwCl) (tys := zt ca) (nw := zw_nest) (C := RX8) (As := [.int 1]) (rest := [.int i28]) ⟨hx, hb, hml, hown, hts⟩ (m_X8_many l dC dI ca sf ad hI ad2 hI2 hq M N 1 hOk ⟨by decide, by decide⟩) (cwV 1 hts gL_isSo_X8_many rfl rfl rfl (by decide +kernel) ⟨Nat.le_of_ble_eq_true rfl, Nat.le_of_ble_eq_true rfl⟩) (z_recv (ci := 8) (i := 0) hK hT rfl (by decide) rfl) ⟨hT, hH, hG⟩ hK hN zw_nest_ok rfl hl.1 rfl (Nat.le_of_ble_eq_true rfl) dL_isSo_327 ⟨Nat.le_refl _, Nat.le_refl _⟩ hS (fun _ h => h) (fun H locs hB1 oq1 hz1 hS => ?_)
                              obtain ⟨hT, hH, hG⟩ := hB1
                              refine lv_topi (fun x31 ex31 => ?_)
                              refine lv_icmp_ge (tgt := 364) hx hb dL_isSo_330 (by decide) (fun c32 => ?_) (fun c32 => ?_)
                              · have hkk27 : k27 = (zc11 M) := z_ge (by rw [ex31]; exact z_Ok.c11 hOk0) ei28 hk27 (Nat.lt_of_le_of_lt (z_Ok.n11 hOk0) (by decide)) c32
                                refine lv_aload_n hx hb dL_isSo_364 rfl (lv_at hl 0 rfl) ?_
                                refine z_cVd (D := (dC, dI)) (cl := vwCl) (tys := zt ca) (nw := zw_nest) (C := RX8) (As := []) (rest := []) ⟨hx, hb, hml, hown, hts⟩ (m_X8_meanWarmth l dC dI ca sf ad hI ad2 hI2 hq M N nb tt hOk hInv h_n) (cwV 0 hts gL_isSo_X8_meanWarmth rfl rfl rfl (by decide +kernel) ⟨Nat.le_of_ble_eq_true rfl, Nat.le_of_ble_eq_true rfl⟩) (z_recv (ci := 8) (i := 0) hK hT rfl (by decide) rfl) ⟨hT, hH, hG⟩ hK hN zw_nest_ok rfl hl.1 rfl (Nat.le_of_ble_eq_true rfl) dL_isSo_365 ⟨Nat.le_refl _, Nat.le_refl _⟩ hS (fun _ h => h) (fun v33 hm H locs hB1 oq1 hz1 hS => ?_)
                                obtain ⟨hT, hH, hG⟩ := hB1
                                obtain ⟨S9, V9, hS9, hV9, hr9⟩ := hm
                                obtain ⟨hS8, hV8⟩ := q_mean hInv h_n hS9 hV9
                                refine lv_dstore (lv' := [(10, .double v33), (0, .ref sf), (1, .int a0), (2, .int a1), (3, .int a2), (4, .int a4), (5, .int a5), (6, .int a6), (7, .int a17), (8, .int a23), (9, .int a24)]) hx hb dL_isSo_368 hl (by decide) rfl (fun ls hl => ?_)
                                refine lv_aload_n hx hb dL_isSo_370 rfl (lv_at hl 1 rfl) ?_
                                refine z_cVi (D := (dC, dI)) (cl := vwCl) (tys := zt ca) (nw := zw_nest) (C := RX8) (As := []) (rest := []) ⟨hx, hb, hml, hown, hts⟩ (m_X8_isClosed l dC dI ca sf ad hI ad2 hI2 hq M N hOk) (cwV 0 hts gL_isSo_X8_isClosed rfl rfl rfl (by decide +kernel) ⟨Nat.le_of_ble_eq_true rfl, Nat.le_of_ble_eq_true rfl⟩) (z_recv (ci := 8) (i := 0) hK hT rfl (by decide) rfl) ⟨hT, hH, hG⟩ hK hN zw_nest_ok rfl hl.1 rfl (Nat.le_of_ble_eq_true rfl) dL_isSo_371 ⟨Nat.le_refl _, Nat.le_refl _⟩ hS (fun _ h => h) (fun H locs hB1 oq1 hz1 hS => ?_)
                                obtain ⟨hT, hH, hG⟩ := hB1
                                refine lv_topi (fun x34 ex34 => ?_)
                                refine lv_if_eq (tgt := 501) hx hb dL_isSo_374 (by decide) (fun c35 => absurd c35 (by rw [ex34, q_closed hInv]; decide)) (fun c35 => ?_)
                                refine lv_aload_n hx hb dL_isSo_377 rfl (lv_at hl 1 rfl) ?_
                                refine lv_iconst (v := 1) hx hb dL_isSo_378 (by decide) ?_
                                refine z_cVi (D := (dC, dI)) (cl := vwCl) (tys := zt ca) (nw := zw_nest) (C := RX8) (As := [.int 1]) (rest := []) ⟨hx, hb, hml, hown, hts⟩ (m_X8_mass l dC dI ca sf ad hI ad2 hI2 hq M N 1 hOk ⟨by decide, by decide⟩) (cwV 1 hts gL_isSo_X8_mass rfl rfl rfl (by decide +kernel) ⟨Nat.le_of_ble_eq_true rfl, Nat.le_of_ble_eq_true rfl⟩) (z_recv (ci := 8) (i := 0) hK hT rfl (by decide) rfl) ⟨hT, hH, hG⟩ hK hN zw_nest_ok rfl hl.1 rfl (Nat.le_of_ble_eq_true rfl) dL_isSo_379 ⟨Nat.le_refl _, Nat.le_refl _⟩ hS (fun _ h => h) (fun H locs hB1 oq1 hz1 hS => ?_)
                                obtain ⟨hT, hH, hG⟩ := hB1
                                refine lv_topi (fun x36 ex36 => ?_)
                                refine lv_iload hx hb dL_isSo_382 (lv_at hl 5 rfl) ?_
                                refine lv_icmp_ne (tgt := 501) hx hb dL_isSo_384 (by decide) (fun c37 => absurd c37 (not_not_intro (by rw [ex36, w1.1, ← hInv.1]; rfl))) (fun c37 => ?_)
                                refine lv_aload_n hx hb dL_isSo_387 rfl (lv_at hl 1 rfl) ?_
                                refine lv_iconst (v := 2) hx hb dL_isSo_388 (by decide) ?_
                                refine z_cVi (D := (dC, dI)) (cl := vwCl) (tys := zt ca) (nw := zw_nest) (C := RX8) (As := [.int 2]) (rest := []) ⟨hx, hb, hml, hown, hts⟩ (m_X8_mass l dC dI ca sf ad hI ad2 hI2 hq M N 2 hOk ⟨by decide, by decide⟩) (cwV 1 hts gL_isSo_X8_mass rfl rfl rfl (by decide +kernel) ⟨Nat.le_of_ble_eq_true rfl, Nat.le_of_ble_eq_true rfl⟩) (z_recv (ci := 8) (i := 0) hK hT rfl (by decide) rfl) ⟨hT, hH, hG⟩ hK hN zw_nest_ok rfl hl.1 rfl (Nat.le_of_ble_eq_true rfl) dL_isSo_389 ⟨Nat.le_refl _, Nat.le_refl _⟩ hS (fun _ h => h) (fun H locs hB1 oq1 hz1 hS => ?_)
                                obtain ⟨hT, hH, hG⟩ := hB1
                                refine lv_topi (fun x38 ex38 => ?_)
                                refine lv_aload_n hx hb dL_isSo_392 rfl (lv_at hl 1 rfl) ?_
                                refine lv_iconst (v := 0) hx hb dL_isSo_393 (by decide) ?_
                                refine z_cVi (D := (dC, dI)) (cl := vwCl) (tys := zt ca) (nw := zw_nest) (C := RX8) (As := [.int 0]) (rest := [.int x38]) ⟨hx, hb, hml, hown, hts⟩ (m_X8_pond l dC dI ca sf ad hI ad2 hI2 hq M N 0 hOk ⟨by decide, by decide⟩) (cwV 1 hts gL_isSo_X8_pond rfl rfl rfl (by decide +kernel) ⟨Nat.le_of_ble_eq_true rfl, Nat.le_of_ble_eq_true rfl⟩) (z_recv (ci := 8) (i := 0) hK hT rfl (by decide) rfl) ⟨hT, hH, hG⟩ hK hN zw_nest_ok rfl hl.1 rfl (Nat.le_of_ble_eq_true rfl) dL_isSo_394 ⟨Nat.le_refl _, Nat.le_refl _⟩ hS (fun _ h => h) (fun H locs hB1 oq1 hz1 hS => ?_)
                                obtain ⟨hT, hH, hG⟩ := hB1
                                refine lv_topi (fun x39 ex39 => ?_)
                                refine lv_icmp_ne (tgt := 501) hx hb dL_isSo_397 (by decide) (fun c40 => absurd c40 (not_not_intro (by rw [ex38, ex39]; rfl))) (fun c40 => ?_)
                                refine lv_aload_n hx hb dL_isSo_400 rfl (lv_at hl 1 rfl) ?_
                                refine lv_iconst (v := 0) hx hb dL_isSo_401 (by decide) ?_
                                refine z_cVi (D := (dC, dI)) (cl := vwCl) (tys := zt ca) (nw := zw_nest) (C := RX8) (As := [.int 0]) (rest := []) ⟨hx, hb, hml, hown, hts⟩ (m_X8_pond l dC dI ca sf ad hI ad2 hI2 hq M N 0 hOk ⟨by decide, by decide⟩) (cwV 1 hts gL_isSo_X8_pond rfl rfl rfl (by decide +kernel) ⟨Nat.le_of_ble_eq_true rfl, Nat.le_of_ble_eq_true rfl⟩) (z_recv (ci := 8) (i := 0) hK hT rfl (by decide) rfl) ⟨hT, hH, hG⟩ hK hN zw_nest_ok rfl hl.1 rfl (Nat.le_of_ble_eq_true rfl) dL_isSo_402 ⟨Nat.le_refl _, Nat.le_refl _⟩ hS (fun _ h => h) (fun H locs hB1 oq1 hz1 hS => ?_)
                                obtain ⟨hT, hH, hG⟩ := hB1
                                refine lv_topi (fun x41 ex41 => ?_)
                                refine lv_sipush (v := 500) hx hb dL_isSo_405 (by decide) ?_
                                refine lv_icmp_gt (tgt := 501) hx hb dL_isSo_408 (by decide) (fun c42 => absurd c42 (by rw [ex41]; exact q_p500 hInv)) (fun c42 => ?_)
                                refine lv_aload_n hx hb dL_isSo_411 rfl (lv_at hl 1 rfl) ?_
                                refine lv_bipush (v := 6) hx hb dL_isSo_412 (by decide) ?_
                                refine z_cVi (D := (dC, dI)) (cl := vwCl) (tys := zt ca) (nw := zw_nest) (C := RX8) (As := [.int 6]) (rest := []) ⟨hx, hb, hml, hown, hts⟩ (m_X8_mass l dC dI ca sf ad hI ad2 hI2 hq M N 6 hOk ⟨by decide, by decide⟩) (cwV 1 hts gL_isSo_X8_mass rfl rfl rfl (by decide +kernel) ⟨Nat.le_of_ble_eq_true rfl, Nat.le_of_ble_eq_true rfl⟩) (z_recv (ci := 8) (i := 0) hK hT rfl (by decide) rfl) ⟨hT, hH, hG⟩ hK hN zw_nest_ok rfl hl.1 rfl (Nat.le_of_ble_eq_true rfl) dL_isSo_414 ⟨Nat.le_refl _, Nat.le_refl _⟩ hS (fun _ h => h) (fun H locs hB1 oq1 hz1 hS => ?_)
                                obtain ⟨hT, hH, hG⟩ := hB1
                                refine lv_topi (fun x43 ex43 => ?_)
                                refine lv_iload hx hb dL_isSo_417 (lv_at hl 9 rfl) ?_
                                refine lv_icmp_ne (tgt := 501) hx hb dL_isSo_419 (by decide) (fun c44 => absurd c44 (not_not_intro (by rw [ex43]; exact q_m6 hInv w4.1))) (fun c44 => ?_)
                                refine lv_aload_n hx hb dL_isSo_422 rfl (lv_at hl 1 rfl) ?_
                                refine lv_bipush (v := 12) hx hb dL_isSo_423 (by decide) ?_
                                refine z_cVi (D := (dC, dI)) (cl := vwCl) (tys := zt ca) (nw := zw_nest) (C := RX8) (As := [.int 12]) (rest := []) ⟨hx, hb, hml, hown, hts⟩ (m_X8_many l dC dI ca sf ad hI ad2 hI2 hq M N 12 hOk ⟨by decide, by decide⟩) (cwV 1 hts gL_isSo_X8_many rfl rfl rfl (by decide +kernel) ⟨Nat.le_of_ble_eq_true rfl, Nat.le_of_ble_eq_true rfl⟩) (z_recv (ci := 8) (i := 0) hK hT rfl (by decide) rfl) ⟨hT, hH, hG⟩ hK hN zw_nest_ok rfl hl.1 rfl (Nat.le_of_ble_eq_true rfl) dL_isSo_425 ⟨Nat.le_refl _, Nat.le_refl _⟩ hS (fun _ h => h) (fun H locs hB1 oq1 hz1 hS => ?_)
                                obtain ⟨hT, hH, hG⟩ := hB1
                                refine lv_topi (fun x45 ex45 => ?_)
                                refine lv_iload hx hb dL_isSo_428 (lv_at hl 10 rfl) ?_
                                refine lv_icmp_ne (tgt := 501) hx hb dL_isSo_430 (by decide) (fun c46 => absurd c46 (not_not_intro (by rw [ex45, w4.2]; rfl))) (fun c46 => ?_)
                                refine lv_aload_n hx hb dL_isSo_433 rfl (lv_at hl 1 rfl) ?_
                                refine lv_bipush (v := 9) hx hb dL_isSo_434 (by decide) ?_
                                refine z_cVi (D := (dC, dI)) (cl := vwCl) (tys := zt ca) (nw := zw_nest) (C := RX8) (As := [.int 9]) (rest := []) ⟨hx, hb, hml, hown, hts⟩ (m_X8_many l dC dI ca sf ad hI ad2 hI2 hq M N 9 hOk ⟨by decide, by decide⟩) (cwV 1 hts gL_isSo_X8_many rfl rfl rfl (by decide +kernel) ⟨Nat.le_of_ble_eq_true rfl, Nat.le_of_ble_eq_true rfl⟩) (z_recv (ci := 8) (i := 0) hK hT rfl (by decide) rfl) ⟨hT, hH, hG⟩ hK hN zw_nest_ok rfl hl.1 rfl (Nat.le_of_ble_eq_true rfl) dL_isSo_436 ⟨Nat.le_refl _, Nat.le_refl _⟩ hS (fun _ h => h) (fun H locs hB1 oq1 hz1 hS => ?_)
                                obtain ⟨hT, hH, hG⟩ := hB1
                                refine lv_topi (fun x47 ex47 => ?_)
                                refine lv_iconst (v := 2) hx hb dL_isSo_439 (by decide) ?_
                                refine lv_iload hx hb dL_isSo_440 (lv_at hl 8 rfl) ?_
                                refine lv_imul hx hb dL_isSo_442 ?_
                                refine lv_topi (fun x48 ex48 => ?_)
                                refine lv_icmp_gt (tgt := 501) hx hb dL_isSo_443 (by decide) (fun c49 => absurd c49 (by rw [ex47, ex48]; exact q_pw hInv h_t.2 (z_Ok.n12 hOk0) w3)) (fun c49 => ?_)
                                refine lv_aload_n hx hb dL_isSo_446 rfl (lv_at hl 1 rfl) ?_
                                refine lv_iconst (v := 5) hx hb dL_isSo_447 (by decide) ?_
                                refine z_cVi (D := (dC, dI)) (cl := vwCl) (tys := zt ca) (nw := zw_nest) (C := RX8) (As := [.int 5]) (rest := []) ⟨hx, hb, hml, hown, hts⟩ (m_X8_many l dC dI ca sf ad hI ad2 hI2 hq M N 5 hOk ⟨by decide, by decide⟩) (cwV 1 hts gL_isSo_X8_many rfl rfl rfl (by decide +kernel) ⟨Nat.le_of_ble_eq_true rfl, Nat.le_of_ble_eq_true rfl⟩) (z_recv (ci := 8) (i := 0) hK hT rfl (by decide) rfl) ⟨hT, hH, hG⟩ hK hN zw_nest_ok rfl hl.1 rfl (Nat.le_of_ble_eq_true rfl) dL_isSo_448 ⟨Nat.le_refl _, Nat.le_refl _⟩ hS (fun _ h => h) (fun H locs hB1 oq1 hz1 hS => ?_)
                                obtain ⟨hT, hH, hG⟩ := hB1
                                refine lv_topi (fun x50 ex50 => ?_)
                                refine lv_iconst (v := 2) hx hb dL_isSo_451 (by decide) ?_
                                refine lv_icmp_gt (tgt := 501) hx hb dL_isSo_452 (by decide) (fun c51 => absurd c51 (by rw [ex50]; exact q_light_le M)) (fun c51 => ?_)
                                refine lv_dload hx hb dL_isSo_455 (lv_at hl 0 rfl) ?_
                                refine lv_iload hx hb dL_isSo_457 (lv_at hl 6 rfl) ?_
                                refine lv_i2d hx hb dL_isSo_459 ?_
                                refine lv_ldc2d (v := fq_c) hx hb hown (hts (.constantDouble RL 114 fq_c) (by decide +kernel)) dL_isSo_460 ?_
                                refine lv_dsub hx hb dL_isSo_463 ((fq_mean hS8 hV8).2.1 a5 w1.2.1.1 w1.2.1.2.1 (q_mlo hInv w1 hS9 hV9).1).1 ?_
                                refine lv_dcmp hx hb dL_isSo_464 ?_
                                refine lv_topi (fun x52 ex52 => ?_)
                                refine lv_if_le (tgt := 501) hx hb dL_isSo_465 (by decide) (fun c53 => absurd c53 (by rw [ex52, hr9, ((fq_mean hS8 hV8).2.1 a5 w1.2.1.1 w1.2.1.2.1 (q_mlo hInv w1 hS9 hV9).1).2]; decide)) (fun c53 => ?_)
                                refine lv_dload hx hb dL_isSo_468 (lv_at hl 0 rfl) ?_
                                refine lv_iload hx hb dL_isSo_470 (lv_at hl 7 rfl) ?_
                                refine lv_i2d hx hb dL_isSo_472 ?_
                                refine lv_ldc2d (v := fq_c) hx hb hown (hts (.constantDouble RL 114 fq_c) (by decide +kernel)) dL_isSo_473 ?_
                                refine lv_dadd hx hb dL_isSo_476 ((fq_mean hS8 hV8).2.2 a6 w1.2.2.1 w1.2.2.2.1 (q_mlo hInv w1 hS9 hV9).2).1 ?_
                                refine lv_dcmp hx hb dL_isSo_477 ?_
                                refine lv_topi (fun x54 ex54 => ?_)
                                refine lv_if_ge (tgt := 501) hx hb dL_isSo_478 (by decide) (fun c55 => absurd c55 (by rw [ex54, hr9, ((fq_mean hS8 hV8).2.2 a6 w1.2.2.1 w1.2.2.2.1 (q_mlo hInv w1 hS9 hV9).2).2]; decide)) (fun c55 => ?_)
                                refine lv_aload_n hx hb dL_isSo_481 rfl (lv_at hl 1 rfl) ?_
                                refine lv_iconst (v := 3) hx hb dL_isSo_482 (by decide) ?_
                                refine z_cVi (D := (dC, dI)) (cl := vwCl) (tys := zt ca) (nw := zw_nest) (C := RX8) (As := [.int 3]) (rest := []) ⟨hx, hb, hml, hown, hts⟩ (m_X8_mass l dC dI ca sf ad hI ad2 hI2 hq M N 3 hOk ⟨by decide, by decide⟩) (cwV 1 hts gL_isSo_X8_mass rfl rfl rfl (by decide +kernel) ⟨Nat.le_of_ble_eq_true rfl, Nat.le_of_ble_eq_true rfl⟩) (z_recv (ci := 8) (i := 0) hK hT rfl (by decide) rfl) ⟨hT, hH, hG⟩ hK hN zw_nest_ok rfl hl.1 rfl (Nat.le_of_ble_eq_true rfl) dL_isSo_483 ⟨Nat.le_refl _, Nat.le_refl _⟩ hS (fun _ h => h) (fun H locs hB1 oq1 hz1 hS => ?_)
                                obtain ⟨hT, hH, hG⟩ := hB1
                                refine lv_topi (fun x56 ex56 => ?_)
                                refine lv_iconst (v := 2) hx hb dL_isSo_486 (by decide) ?_
                                refine lv_imul hx hb dL_isSo_487 ?_
                                refine lv_topi (fun x57 ex57 => ?_)
                                refine lv_aload_n hx hb dL_isSo_488 rfl (lv_at hl 1 rfl) ?_
                                refine lv_bipush (v := 10) hx hb dL_isSo_489 (by decide) ?_
                                refine z_cVi (D := (dC, dI)) (cl := vwCl) (tys := zt ca) (nw := zw_nest) (C := RX8) (As := [.int 10]) (rest := [.int x57]) ⟨hx, hb, hml, hown, hts⟩ (m_X8_many l dC dI ca sf ad hI ad2 hI2 hq M N 10 hOk ⟨by decide, by decide⟩) (cwV 1 hts gL_isSo_X8_many rfl rfl rfl (by decide +kernel) ⟨Nat.le_of_ble_eq_true rfl, Nat.le_of_ble_eq_true rfl⟩) (z_recv (ci := 8) (i := 0) hK hT rfl (by decide) rfl) ⟨hT, hH, hG⟩ hK hN zw_nest_ok rfl hl.1 rfl (Nat.le_of_ble_eq_true rfl) dL_isSo_491 ⟨Nat.le_refl _, Nat.le_refl _⟩ hS (fun _ h => h) (fun H locs hB1 oq1 hz1 hS => ?_)
                                obtain ⟨hT, hH, hG⟩ := hB1
                                refine lv_topi (fun x58 ex58 => ?_)
                                refine lv_icmp_ne (tgt := 501) hx hb dL_isSo_494 (by decide) (fun c59 => absurd c59 (not_not_intro (by subst ex58; subst ex57; subst ex56; exact q_half hInv))) (fun c59 => ?_)
                                refine lv_iconst (v := 1) hx hb dL_isSo_497 (by decide) ?_
                                refine lv_goto (tgt := 502) hx hb dL_isSo_498 (by decide) ?_
                                exact W.zret (v := 1) (ty := .boolean) hx hb hr (by decide) (fun t ht hW => ⟨⟨1, (), rfl, rfl, z_to (B := fun H => zT dC dI ca sf (ad 0) (ad2 0) H ∧ zW dC dI ca ad M H ∧ zW dC dI ca ad2 N H) ht ⟨hT, hH, hG⟩⟩, hS.F ht⟩) hS.2.2 dL_isSo_502
                              · have hkk27 : k27 < (zc11 M) := z_lt (by rw [ex31]; exact z_Ok.c11 hOk0) ei28 hk27 (Nat.lt_of_le_of_lt (z_Ok.n11 hOk0) (by decide)) c32
                                refine lv_aload_n hx hb dL_isSo_333 rfl (lv_at hl 0 rfl) ?_
                                refine lv_iload hx hb dL_isSo_334 (lv_at hl 10 rfl) ?_
                                refine lv_iconst (v := 0) hx hb dL_isSo_336 (by decide) ?_
                                refine z_cVi (D := (dC, dI)) (cl := vwCl) (tys := zt ca) (nw := zw_nest) (C := RX8) (As := [.int i28, .int 0]) (rest := []) ⟨hx, hb, hml, hown, hts⟩ (m_X8_ofFace l dC dI ca sf ad hI ad2 hI2 hq M N i28 0 hOk ⟨k27, hkk27, Nat.lt_trans (Nat.lt_of_lt_of_le hkk27 (z_Ok.n11 hOk0)) (by decide), ei28⟩) (cwV 2 hts gL_isSo_X8_ofFace rfl rfl rfl (by decide +kernel) ⟨Nat.le_of_ble_eq_true rfl, Nat.le_of_ble_eq_true rfl⟩) (z_recv (ci := 8) (i := 0) hK hT rfl (by decide) rfl) ⟨hT, hH, hG⟩ hK hN zw_nest_ok rfl hl.1 rfl (Nat.le_of_ble_eq_true rfl) dL_isSo_337 ⟨Nat.le_refl _, Nat.le_refl _⟩ hS (fun _ h => h) (fun H locs hB1 oq1 hz1 hS => ?_)
                                obtain ⟨hT, hH, hG⟩ := hB1
                                refine lv_topi (fun x60 ex60 => ?_)
                                refine lv_iconst (v := 1) hx hb dL_isSo_340 (by decide) ?_
                                refine lv_icmp_lt (tgt := 356) hx hb dL_isSo_341 (by decide) (fun c61 => absurd c61 (by rw [ex60, q_of (M := M) (N := N) ei28 (Nat.lt_of_lt_of_le hkk27 (z_Ok.n11 hOk0))]; exact (q_f3 hInv hkk27).1)) (fun c61 => ?_)
                                refine lv_aload_n hx hb dL_isSo_344 rfl (lv_at hl 0 rfl) ?_
                                refine lv_iload hx hb dL_isSo_345 (lv_at hl 10 rfl) ?_
                                refine lv_iconst (v := 0) hx hb dL_isSo_347 (by decide) ?_
                                refine z_cVi (D := (dC, dI)) (cl := vwCl) (tys := zt ca) (nw := zw_nest) (C := RX8) (As := [.int i28, .int 0]) (rest := []) ⟨hx, hb, hml, hown, hts⟩ (m_X8_ofFace l dC dI ca sf ad hI ad2 hI2 hq M N i28 0 hOk ⟨k27, hkk27, Nat.lt_trans (Nat.lt_of_lt_of_le hkk27 (z_Ok.n11 hOk0)) (by decide), ei28⟩) (cwV 2 hts gL_isSo_X8_ofFace rfl rfl rfl (by decide +kernel) ⟨Nat.le_of_ble_eq_true rfl, Nat.le_of_ble_eq_true rfl⟩) (z_recv (ci := 8) (i := 0) hK hT rfl (by decide) rfl) ⟨hT, hH, hG⟩ hK hN zw_nest_ok rfl hl.1 rfl (Nat.le_of_ble_eq_true rfl) dL_isSo_348 ⟨Nat.le_refl _, Nat.le_refl _⟩ hS (fun _ h => h) (fun H locs hB1 oq1 hz1 hS => ?_)
                                obtain ⟨hT, hH, hG⟩ := hB1
                                refine lv_topi (fun x62 ex62 => ?_)
                                refine lv_bipush (v := 9) hx hb dL_isSo_351 (by decide) ?_
                                refine lv_icmp_le (tgt := 358) hx hb dL_isSo_353 (by decide) (fun c63 => ?_) (fun c63 => absurd c63 (not_not_intro (by rw [ex62, q_of (M := M) (N := N) ei28 (Nat.lt_of_lt_of_le hkk27 (z_Ok.n11 hOk0))]; exact (q_f3 hInv hkk27).2)))
                                obtain ⟨x64, ex64⟩ : ∃ z : Int32, z = i28 + 1 := ⟨_, rfl⟩
                                refine lv_iinc (v := x64) (lv' := [(10, .int x64), (0, .ref sf), (1, .int a0), (2, .int a1), (3, .int a2), (4, .int a4), (5, .int a5), (6, .int a6), (7, .int a17), (8, .int a23), (9, .int a24)]) hx hb dL_isSo_358 hl (k := 10) rfl (by rw [ex64]; rfl) (by decide) rfl (fun ls hl => ?_)
                                refine lv_goto (tgt := 323) hx hb dL_isSo_361 (by decide) ?_
                                exact ihk27 (k27 + 1) hkk27 (by omega) (trivial) x64 (z_nx ei28 ex64) ls (lv_sub hl [1, 2, 3, 4, 5, 6, 7, 8, 9, 10, 0] rfl) _ _ hT hH hG hS
                          exact L30 ((zc11 M) + 1) 0 (Nat.zero_le _) (by omega) (trivial) _ rfl ls (lv_sub hl [1, 2, 3, 4, 5, 6, 7, 8, 9, 10, 0] rfl) H locs hT hH hG hS
                        · have hkk20 : k20 < (zc13 M) := z_lt h_a2 ei21 hk20 (Nat.lt_of_le_of_lt (z_Ok.n13 hOk0) (by decide)) c26
                          refine lv_iload hx hb dL_isSo_239 (lv_at hl 8 rfl) ?_
                          refine lv_aload_n hx hb dL_isSo_241 rfl (lv_at hl 0 rfl) ?_
                          refine lv_iload hx hb dL_isSo_242 (lv_at hl 10 rfl) ?_
                          refine lv_iconst (v := 2) hx hb dL_isSo_244 (by decide) ?_
                          refine z_cVi (D := (dC, dI)) (cl := vwCl) (tys := zt ca) (nw := zw_nest) (C := RX8) (As := [.int i21, .int 2]) (rest := [.int a23]) ⟨hx, hb, hml, hown, hts⟩ (m_X8_ofSpring l dC dI ca sf ad hI ad2 hI2 hq M N i21 2 hOk ⟨k20, hkk20, Nat.lt_trans (Nat.lt_of_lt_of_le hkk20 (z_Ok.n13 hOk0)) (by decide), ei21⟩ ⟨by decide, by decide⟩) (cwV 2 hts gL_isSo_X8_ofSpring rfl rfl rfl (by decide +kernel) ⟨Nat.le_of_ble_eq_true rfl, Nat.le_of_ble_eq_true rfl⟩) (z_recv (ci := 8) (i := 0) hK hT rfl (by decide) rfl) ⟨hT, hH, hG⟩ hK hN zw_nest_ok rfl hl.1 rfl (Nat.le_of_ble_eq_true rfl) dL_isSo_245 ⟨Nat.le_refl _, Nat.le_refl _⟩ hS (fun _ h => h) (fun H locs hB1 oq1 hz1 hS => ?_)
                          obtain ⟨hT, hH, hG⟩ := hB1
                          refine lv_topi (fun x65 ex65 => ?_)
                          refine lv_iadd hx hb dL_isSo_248 ?_
                          refine lv_topi (fun x66 ex66 => ?_)
                          refine lv_istore (lv' := [(8, .int x66), (0, .ref sf), (1, .int a0), (2, .int a1), (3, .int a2), (4, .int a4), (5, .int a5), (6, .int a6), (7, .int a17), (9, .int a24), (10, .int i21)]) hx hb dL_isSo_249 hl (by decide) rfl (fun ls hl => ?_)
                          refine lv_iload hx hb dL_isSo_251 (lv_at hl 9 rfl) ?_
                          refine lv_aload_n hx hb dL_isSo_253 rfl (lv_at hl 1 rfl) ?_
                          refine lv_iload hx hb dL_isSo_254 (lv_at hl 10 rfl) ?_
                          refine lv_iconst (v := 3) hx hb dL_isSo_256 (by decide) ?_
                          refine z_cVi (D := (dC, dI)) (cl := vwCl) (tys := zt ca) (nw := zw_nest) (C := RX8) (As := [.int i21, .int 3]) (rest := [.int a24]) ⟨hx, hb, hml, hown, hts⟩ (m_X8_ofSpring l dC dI ca sf ad hI ad2 hI2 hq M N i21 3 hOk ⟨k20, hkk20, Nat.lt_trans (Nat.lt_of_lt_of_le hkk20 (z_Ok.n13 hOk0)) (by decide), ei21⟩ ⟨by decide, by decide⟩) (cwV 2 hts gL_isSo_X8_ofSpring rfl rfl rfl (by decide +kernel) ⟨Nat.le_of_ble_eq_true rfl, Nat.le_of_ble_eq_true rfl⟩) (z_recv (ci := 8) (i := 0) hK hT rfl (by decide) rfl) ⟨hT, hH, hG⟩ hK hN zw_nest_ok rfl hl.1 rfl (Nat.le_of_ble_eq_true rfl) dL_isSo_257 ⟨Nat.le_refl _, Nat.le_refl _⟩ hS (fun _ h => h) (fun H locs hB1 oq1 hz1 hS => ?_)
                          obtain ⟨hT, hH, hG⟩ := hB1
                          refine lv_topi (fun x67 ex67 => ?_)
                          refine lv_iadd hx hb dL_isSo_260 ?_
                          refine lv_topi (fun x68 ex68 => ?_)
                          refine lv_istore (lv' := [(9, .int x68), (8, .int x66), (0, .ref sf), (1, .int a0), (2, .int a1), (3, .int a2), (4, .int a4), (5, .int a5), (6, .int a6), (7, .int a17), (10, .int i21)]) hx hb dL_isSo_261 hl (by decide) rfl (fun ls hl => ?_)
                          refine lv_aload_n hx hb dL_isSo_263 rfl (lv_at hl 2 rfl) ?_
                          refine lv_iload hx hb dL_isSo_264 (lv_at hl 10 rfl) ?_
                          refine lv_iconst (v := 0) hx hb dL_isSo_266 (by decide) ?_
                          refine z_cVi (D := (dC, dI)) (cl := vwCl) (tys := zt ca) (nw := zw_nest) (C := RX8) (As := [.int i21, .int 0]) (rest := []) ⟨hx, hb, hml, hown, hts⟩ (m_X8_ofSpring l dC dI ca sf ad hI ad2 hI2 hq M N i21 0 hOk ⟨k20, hkk20, Nat.lt_trans (Nat.lt_of_lt_of_le hkk20 (z_Ok.n13 hOk0)) (by decide), ei21⟩ ⟨by decide, by decide⟩) (cwV 2 hts gL_isSo_X8_ofSpring rfl rfl rfl (by decide +kernel) ⟨Nat.le_of_ble_eq_true rfl, Nat.le_of_ble_eq_true rfl⟩) (z_recv (ci := 8) (i := 0) hK hT rfl (by decide) rfl) ⟨hT, hH, hG⟩ hK hN zw_nest_ok rfl hl.1 rfl (Nat.le_of_ble_eq_true rfl) dL_isSo_267 ⟨Nat.le_refl _, Nat.le_refl _⟩ hS (fun _ h => h) (fun H locs hB1 oq1 hz1 hS => ?_)
                          obtain ⟨hT, hH, hG⟩ := hB1
                          refine lv_topi (fun x69 ex69 => ?_)
                          refine lv_if_lt (tgt := 312) hx hb dL_isSo_270 (by decide) (fun c70 => absurd c70 (by rw [ex69, (q_os (M := M) (N := N) ei21 (Nat.lt_of_lt_of_le hkk20 (z_Ok.n13 hOk0))).1]; exact (q_s3 hInv hkk20).1)) (fun c70 => ?_)
                          refine lv_aload_n hx hb dL_isSo_273 rfl (lv_at hl 2 rfl) ?_
                          refine lv_iload hx hb dL_isSo_274 (lv_at hl 10 rfl) ?_
                          refine lv_iconst (v := 1) hx hb dL_isSo_276 (by decide) ?_
                          refine z_cVi (D := (dC, dI)) (cl := vwCl) (tys := zt ca) (nw := zw_nest) (C := RX8) (As := [.int i21, .int 1]) (rest := []) ⟨hx, hb, hml, hown, hts⟩ (m_X8_ofSpring l dC dI ca sf ad hI ad2 hI2 hq M N i21 1 hOk ⟨k20, hkk20, Nat.lt_trans (Nat.lt_of_lt_of_le hkk20 (z_Ok.n13 hOk0)) (by decide), ei21⟩ ⟨by decide, by decide⟩) (cwV 2 hts gL_isSo_X8_ofSpring rfl rfl rfl (by decide +kernel) ⟨Nat.le_of_ble_eq_true rfl, Nat.le_of_ble_eq_true rfl⟩) (z_recv (ci := 8) (i := 0) hK hT rfl (by decide) rfl) ⟨hT, hH, hG⟩ hK hN zw_nest_ok rfl hl.1 rfl (Nat.le_of_ble_eq_true rfl) dL_isSo_277 ⟨Nat.le_refl _, Nat.le_refl _⟩ hS (fun _ h => h) (fun H locs hB1 oq1 hz1 hS => ?_)
                          obtain ⟨hT, hH, hG⟩ := hB1
                          refine lv_topi (fun x71 ex71 => ?_)
                          refine lv_if_lt (tgt := 312) hx hb dL_isSo_280 (by decide) (fun c72 => absurd c72 (by rw [ex71, (q_os (M := M) (N := N) ei21 (Nat.lt_of_lt_of_le hkk20 (z_Ok.n13 hOk0))).2.1]; exact (q_s3 hInv hkk20).2.1)) (fun c72 => ?_)
                          refine lv_aload_n hx hb dL_isSo_283 rfl (lv_at hl 2 rfl) ?_
                          refine lv_iload hx hb dL_isSo_284 (lv_at hl 10 rfl) ?_
                          refine lv_iconst (v := 1) hx hb dL_isSo_286 (by decide) ?_
                          refine z_cVi (D := (dC, dI)) (cl := vwCl) (tys := zt ca) (nw := zw_nest) (C := RX8) (As := [.int i21, .int 1]) (rest := []) ⟨hx, hb, hml, hown, hts⟩ (m_X8_ofSpring l dC dI ca sf ad hI ad2 hI2 hq M N i21 1 hOk ⟨k20, hkk20, Nat.lt_trans (Nat.lt_of_lt_of_le hkk20 (z_Ok.n13 hOk0)) (by decide), ei21⟩ ⟨by decide, by decide⟩) (cwV 2 hts gL_isSo_X8_ofSpring rfl rfl rfl (by decide +kernel) ⟨Nat.le_of_ble_eq_true rfl, Nat.le_of_ble_eq_true rfl⟩) (z_recv (ci := 8) (i := 0) hK hT rfl (by decide) rfl) ⟨hT, hH, hG⟩ hK hN zw_nest_ok rfl hl.1 rfl (Nat.le_of_ble_eq_true rfl) dL_isSo_287 ⟨Nat.le_refl _, Nat.le_refl _⟩ hS (fun _ h => h) (fun H locs hB1 oq1 hz1 hS => ?_)
                          obtain ⟨hT, hH, hG⟩ := hB1
                          refine lv_topi (fun x73 ex73 => ?_)
                          refine lv_bipush (v := 50) hx hb dL_isSo_290 (by decide) ?_
                          refine lv_icmp_gt (tgt := 312) hx hb dL_isSo_292 (by decide) (fun c74 => absurd c74 (by rw [ex73, (q_os (M := M) (N := N) ei21 (Nat.lt_of_lt_of_le hkk20 (z_Ok.n13 hOk0))).2.1]; exact (q_s3 hInv hkk20).2.2.1)) (fun c74 => ?_)
                          refine lv_aload_n hx hb dL_isSo_295 rfl (lv_at hl 2 rfl) ?_
                          refine lv_iload hx hb dL_isSo_296 (lv_at hl 10 rfl) ?_
                          refine lv_iconst (v := 2) hx hb dL_isSo_298 (by decide) ?_
                          refine z_cVi (D := (dC, dI)) (cl := vwCl) (tys := zt ca) (nw := zw_nest) (C := RX8) (As := [.int i21, .int 2]) (rest := []) ⟨hx, hb, hml, hown, hts⟩ (m_X8_ofSpring l dC dI ca sf ad hI ad2 hI2 hq M N i21 2 hOk ⟨k20, hkk20, Nat.lt_trans (Nat.lt_of_lt_of_le hkk20 (z_Ok.n13 hOk0)) (by decide), ei21⟩ ⟨by decide, by decide⟩) (cwV 2 hts gL_isSo_X8_ofSpring rfl rfl rfl (by decide +kernel) ⟨Nat.le_of_ble_eq_true rfl, Nat.le_of_ble_eq_true rfl⟩) (z_recv (ci := 8) (i := 0) hK hT rfl (by decide) rfl) ⟨hT, hH, hG⟩ hK hN zw_nest_ok rfl hl.1 rfl (Nat.le_of_ble_eq_true rfl) dL_isSo_299 ⟨Nat.le_refl _, Nat.le_refl _⟩ hS (fun _ h => h) (fun H locs hB1 oq1 hz1 hS => ?_)
                          obtain ⟨hT, hH, hG⟩ := hB1
                          refine lv_topi (fun x75 ex75 => ?_)
                          refine lv_aload_n hx hb dL_isSo_302 rfl (lv_at hl 2 rfl) ?_
                          refine lv_iload hx hb dL_isSo_303 (lv_at hl 10 rfl) ?_
                          refine lv_iconst (v := 0) hx hb dL_isSo_305 (by decide) ?_
                          refine z_cVi (D := (dC, dI)) (cl := vwCl) (tys := zt ca) (nw := zw_nest) (C := RX8) (As := [.int i21, .int 0]) (rest := [.int x75]) ⟨hx, hb, hml, hown, hts⟩ (m_X8_ofSpring l dC dI ca sf ad hI ad2 hI2 hq M N i21 0 hOk ⟨k20, hkk20, Nat.lt_trans (Nat.lt_of_lt_of_le hkk20 (z_Ok.n13 hOk0)) (by decide), ei21⟩ ⟨by decide, by decide⟩) (cwV 2 hts gL_isSo_X8_ofSpring rfl rfl rfl (by decide +kernel) ⟨Nat.le_of_ble_eq_true rfl, Nat.le_of_ble_eq_true rfl⟩) (z_recv (ci := 8) (i := 0) hK hT rfl (by decide) rfl) ⟨hT, hH, hG⟩ hK hN zw_nest_ok rfl hl.1 rfl (Nat.le_of_ble_eq_true rfl) dL_isSo_306 ⟨Nat.le_refl _, Nat.le_refl _⟩ hS (fun _ h => h) (fun H locs hB1 oq1 hz1 hS => ?_)
                          obtain ⟨hT, hH, hG⟩ := hB1
                          refine lv_topi (fun x76 ex76 => ?_)
                          refine lv_icmp_ge (tgt := 314) hx hb dL_isSo_309 (by decide) (fun c77 => ?_) (fun c77 => absurd c77 (not_not_intro (by rw [ex75, ex76, (q_os (M := M) (N := N) ei21 (Nat.lt_of_lt_of_le hkk20 (z_Ok.n13 hOk0))).2.2.1, (q_os (M := M) (N := N) ei21 (Nat.lt_of_lt_of_le hkk20 (z_Ok.n13 hOk0))).1]; exact (q_s3 hInv hkk20).2.2.2)))
                          obtain ⟨x78, ex78⟩ : ∃ z : Int32, z = i21 + 1 := ⟨_, rfl⟩
                          refine lv_iinc (v := x78) (lv' := [(10, .int x78), (9, .int x68), (8, .int x66), (0, .ref sf), (1, .int a0), (2, .int a1), (3, .int a2), (4, .int a4), (5, .int a5), (6, .int a6), (7, .int a17)]) hx hb dL_isSo_314 hl (k := 10) rfl (by rw [ex78]; rfl) (by decide) rfl (fun ls hl => ?_)
                          refine lv_goto (tgt := 233) hx hb dL_isSo_317 (by decide) ?_
                          exact ihk20 (k20 + 1) hkk20 (by omega) x66 x68 (by subst ex78; subst ex76; subst ex75; subst ex73; subst ex71; subst ex69; subst ex68; subst ex67; subst ex66; subst ex65; exact ⟨q_fl hInv (z_Ok.n13 hOk0) hkk20 vk20.1 (q_os ei21 (Nat.lt_of_lt_of_le hkk20 (z_Ok.n13 hOk0))).2.2.1, by rw [zit_s, ← vk20.2, (q_os (M := M) (N := N) ei21 (Nat.lt_of_lt_of_le hkk20 (z_Ok.n13 hOk0))).2.2.2]; rfl⟩) x78 (z_nx ei21 ex78) ls (lv_sub hl [3, 4, 5, 6, 7, 8, 9, 10, 2, 1, 0] rfl) _ _ hT hH hG hS
                    exact L25 ((zc13 M) + 1) 0 (Nat.zero_le _) (by omega) 0 0 (⟨rfl, (zit_0 _ _).symm⟩) _ rfl ls (lv_sub hl [3, 4, 5, 6, 7, 8, 9, 10, 2, 1, 0] rfl) H locs hT hH hG hS
                  · have hkk14 : k14 < (zc12 M) := z_lt h_a1 ei15 hk14 (Nat.lt_of_le_of_lt (z_Ok.n12 hOk0) (by decide)) c19
                    refine lv_aload_n hx hb dL_isSo_133 rfl (lv_at hl 0 rfl) ?_
                    refine lv_iload hx hb dL_isSo_134 (lv_at hl 8 rfl) ?_
                    refine lv_iconst (v := 3) hx hb dL_isSo_136 (by decide) ?_
                    refine z_cVi (D := (dC, dI)) (cl := vwCl) (tys := zt ca) (nw := zw_nest) (C := RX8) (As := [.int i15, .int 3]) (rest := []) ⟨hx, hb, hml, hown, hts⟩ (m_X8_ofWell l dC dI ca sf ad hI ad2 hI2 hq M N i15 3 hOk ⟨k14, hkk14, Nat.lt_trans (Nat.lt_of_lt_of_le hkk14 (z_Ok.n12 hOk0)) (by decide), ei15⟩ ⟨by decide, by decide⟩) (cwV 2 hts gL_isSo_X8_ofWell rfl rfl rfl (by decide +kernel) ⟨Nat.le_of_ble_eq_true rfl, Nat.le_of_ble_eq_true rfl⟩) (z_recv (ci := 8) (i := 0) hK hT rfl (by decide) rfl) ⟨hT, hH, hG⟩ hK hN zw_nest_ok rfl hl.1 rfl (Nat.le_of_ble_eq_true rfl) dL_isSo_137 ⟨Nat.le_refl _, Nat.le_refl _⟩ hS (fun _ h => h) (fun H locs hB1 oq1 hz1 hS => ?_)
                    obtain ⟨hT, hH, hG⟩ := hB1
                    refine lv_topi (fun x79 ex79 => ?_)
                    refine lv_bipush (v := 9) hx hb dL_isSo_140 (by decide) ?_
                    refine lv_icmp_gt (tgt := 203) hx hb dL_isSo_142 (by decide) (fun c80 => absurd c80 (by rw [ex79, (q_ow (M := M) (N := N) ei15 (Nat.lt_of_lt_of_le hkk14 (z_Ok.n12 hOk0))).2.2.2.1]; exact (q_w3 hInv hkk14).1)) (fun c80 => ?_)
                    refine lv_aload_n hx hb dL_isSo_145 rfl (lv_at hl 0 rfl) ?_
                    refine lv_iload hx hb dL_isSo_146 (lv_at hl 8 rfl) ?_
                    refine lv_iconst (v := 4) hx hb dL_isSo_148 (by decide) ?_
                    refine z_cVi (D := (dC, dI)) (cl := vwCl) (tys := zt ca) (nw := zw_nest) (C := RX8) (As := [.int i15, .int 4]) (rest := []) ⟨hx, hb, hml, hown, hts⟩ (m_X8_ofWell l dC dI ca sf ad hI ad2 hI2 hq M N i15 4 hOk ⟨k14, hkk14, Nat.lt_trans (Nat.lt_of_lt_of_le hkk14 (z_Ok.n12 hOk0)) (by decide), ei15⟩ ⟨by decide, by decide⟩) (cwV 2 hts gL_isSo_X8_ofWell rfl rfl rfl (by decide +kernel) ⟨Nat.le_of_ble_eq_true rfl, Nat.le_of_ble_eq_true rfl⟩) (z_recv (ci := 8) (i := 0) hK hT rfl (by decide) rfl) ⟨hT, hH, hG⟩ hK hN zw_nest_ok rfl hl.1 rfl (Nat.le_of_ble_eq_true rfl) dL_isSo_149 ⟨Nat.le_refl _, Nat.le_refl _⟩ hS (fun _ h => h) (fun H locs hB1 oq1 hz1 hS => ?_)
                    obtain ⟨hT, hH, hG⟩ := hB1
                    refine lv_topi (fun x81 ex81 => ?_)
                    refine lv_iconst (v := 4) hx hb dL_isSo_152 (by decide) ?_
                    refine lv_icmp_gt (tgt := 203) hx hb dL_isSo_153 (by decide) (fun c82 => absurd c82 (by rw [ex81, (q_ow (M := M) (N := N) ei15 (Nat.lt_of_lt_of_le hkk14 (z_Ok.n12 hOk0))).2.2.2.2.1]; exact (q_w3 hInv hkk14).2.1)) (fun c82 => ?_)
                    refine lv_aload_n hx hb dL_isSo_156 rfl (lv_at hl 0 rfl) ?_
                    refine lv_iload hx hb dL_isSo_157 (lv_at hl 8 rfl) ?_
                    refine lv_bipush (v := 6) hx hb dL_isSo_159 (by decide) ?_
                    refine z_cVi (D := (dC, dI)) (cl := vwCl) (tys := zt ca) (nw := zw_nest) (C := RX8) (As := [.int i15, .int 6]) (rest := []) ⟨hx, hb, hml, hown, hts⟩ (m_X8_ofWell l dC dI ca sf ad hI ad2 hI2 hq M N i15 6 hOk ⟨k14, hkk14, Nat.lt_trans (Nat.lt_of_lt_of_le hkk14 (z_Ok.n12 hOk0)) (by decide), ei15⟩ ⟨by decide, by decide⟩) (cwV 2 hts gL_isSo_X8_ofWell rfl rfl rfl (by decide +kernel) ⟨Nat.le_of_ble_eq_true rfl, Nat.le_of_ble_eq_true rfl⟩) (z_recv (ci := 8) (i := 0) hK hT rfl (by decide) rfl) ⟨hT, hH, hG⟩ hK hN zw_nest_ok rfl hl.1 rfl (Nat.le_of_ble_eq_true rfl) dL_isSo_161 ⟨Nat.le_refl _, Nat.le_refl _⟩ hS (fun _ h => h) (fun H locs hB1 oq1 hz1 hS => ?_)
                    obtain ⟨hT, hH, hG⟩ := hB1
                    refine lv_topi (fun x83 ex83 => ?_)
                    refine lv_aload_n hx hb dL_isSo_164 rfl (lv_at hl 0 rfl) ?_
                    refine lv_iload hx hb dL_isSo_165 (lv_at hl 8 rfl) ?_
                    refine lv_iconst (v := 5) hx hb dL_isSo_167 (by decide) ?_
                    refine z_cVi (D := (dC, dI)) (cl := vwCl) (tys := zt ca) (nw := zw_nest) (C := RX8) (As := [.int i15, .int 5]) (rest := [.int x83]) ⟨hx, hb, hml, hown, hts⟩ (m_X8_ofWell l dC dI ca sf ad hI ad2 hI2 hq M N i15 5 hOk ⟨k14, hkk14, Nat.lt_trans (Nat.lt_of_lt_of_le hkk14 (z_Ok.n12 hOk0)) (by decide), ei15⟩ ⟨by decide, by decide⟩) (cwV 2 hts gL_isSo_X8_ofWell rfl rfl rfl (by decide +kernel) ⟨Nat.le_of_ble_eq_true rfl, Nat.le_of_ble_eq_true rfl⟩) (z_recv (ci := 8) (i := 0) hK hT rfl (by decide) rfl) ⟨hT, hH, hG⟩ hK hN zw_nest_ok rfl hl.1 rfl (Nat.le_of_ble_eq_true rfl) dL_isSo_168 ⟨Nat.le_refl _, Nat.le_refl _⟩ hS (fun _ h => h) (fun H locs hB1 oq1 hz1 hS => ?_)
                    obtain ⟨hT, hH, hG⟩ := hB1
                    refine lv_topi (fun x84 ex84 => ?_)
                    refine lv_icmp_gt (tgt := 203) hx hb dL_isSo_171 (by decide) (fun c85 => absurd c85 (by rw [ex83, ex84, (q_ow (M := M) (N := N) ei15 (Nat.lt_of_lt_of_le hkk14 (z_Ok.n12 hOk0))).2.2.2.2.2.2.1, (q_ow (M := M) (N := N) ei15 (Nat.lt_of_lt_of_le hkk14 (z_Ok.n12 hOk0))).2.2.2.2.2.1]; exact (q_w3 hInv hkk14).2.2.1)) (fun c85 => ?_)
                    refine lv_aload_n hx hb dL_isSo_174 rfl (lv_at hl 0 rfl) ?_
                    refine lv_iload hx hb dL_isSo_175 (lv_at hl 8 rfl) ?_
                    refine lv_bipush (v := 8) hx hb dL_isSo_177 (by decide) ?_
                    refine z_cVi (D := (dC, dI)) (cl := vwCl) (tys := zt ca) (nw := zw_nest) (C := RX8) (As := [.int i15, .int 8]) (rest := []) ⟨hx, hb, hml, hown, hts⟩ (m_X8_ofWell l dC dI ca sf ad hI ad2 hI2 hq M N i15 8 hOk ⟨k14, hkk14, Nat.lt_trans (Nat.lt_of_lt_of_le hkk14 (z_Ok.n12 hOk0)) (by decide), ei15⟩ ⟨by decide, by decide⟩) (cwV 2 hts gL_isSo_X8_ofWell rfl rfl rfl (by decide +kernel) ⟨Nat.le_of_ble_eq_true rfl, Nat.le_of_ble_eq_true rfl⟩) (z_recv (ci := 8) (i := 0) hK hT rfl (by decide) rfl) ⟨hT, hH, hG⟩ hK hN zw_nest_ok rfl hl.1 rfl (Nat.le_of_ble_eq_true rfl) dL_isSo_179 ⟨Nat.le_refl _, Nat.le_refl _⟩ hS (fun _ h => h) (fun H locs hB1 oq1 hz1 hS => ?_)
                    obtain ⟨hT, hH, hG⟩ := hB1
                    refine lv_topi (fun x86 ex86 => ?_)
                    refine lv_aload_n hx hb dL_isSo_182 rfl (lv_at hl 0 rfl) ?_
                    refine lv_iload hx hb dL_isSo_183 (lv_at hl 8 rfl) ?_
                    refine lv_iconst (v := 5) hx hb dL_isSo_185 (by decide) ?_
                    refine z_cVi (D := (dC, dI)) (cl := vwCl) (tys := zt ca) (nw := zw_nest) (C := RX8) (As := [.int i15, .int 5]) (rest := [.int x86]) ⟨hx, hb, hml, hown, hts⟩ (m_X8_ofWell l dC dI ca sf ad hI ad2 hI2 hq M N i15 5 hOk ⟨k14, hkk14, Nat.lt_trans (Nat.lt_of_lt_of_le hkk14 (z_Ok.n12 hOk0)) (by decide), ei15⟩ ⟨by decide, by decide⟩) (cwV 2 hts gL_isSo_X8_ofWell rfl rfl rfl (by decide +kernel) ⟨Nat.le_of_ble_eq_true rfl, Nat.le_of_ble_eq_true rfl⟩) (z_recv (ci := 8) (i := 0) hK hT rfl (by decide) rfl) ⟨hT, hH, hG⟩ hK hN zw_nest_ok rfl hl.1 rfl (Nat.le_of_ble_eq_true rfl) dL_isSo_186 ⟨Nat.le_refl _, Nat.le_refl _⟩ hS (fun _ h => h) (fun H locs hB1 oq1 hz1 hS => ?_)
                    obtain ⟨hT, hH, hG⟩ := hB1
                    refine lv_topi (fun x87 ex87 => ?_)
                    refine lv_icmp_lt (tgt := 203) hx hb dL_isSo_189 (by decide) (fun c88 => absurd c88 (by rw [ex86, ex87, (q_ow (M := M) (N := N) ei15 (Nat.lt_of_lt_of_le hkk14 (z_Ok.n12 hOk0))).2.2.2.2.2.2.2.2, (q_ow (M := M) (N := N) ei15 (Nat.lt_of_lt_of_le hkk14 (z_Ok.n12 hOk0))).2.2.2.2.2.1]; exact (q_w3 hInv hkk14).2.2.2.1)) (fun c88 => ?_)
                    refine lv_aload_n hx hb dL_isSo_192 rfl (lv_at hl 0 rfl) ?_
                    refine lv_iload hx hb dL_isSo_193 (lv_at hl 8 rfl) ?_
                    refine lv_bipush (v := 7) hx hb dL_isSo_195 (by decide) ?_
                    refine z_cVi (D := (dC, dI)) (cl := vwCl) (tys := zt ca) (nw := zw_nest) (C := RX8) (As := [.int i15, .int 7]) (rest := []) ⟨hx, hb, hml, hown, hts⟩ (m_X8_ofWell l dC dI ca sf ad hI ad2 hI2 hq M N i15 7 hOk ⟨k14, hkk14, Nat.lt_trans (Nat.lt_of_lt_of_le hkk14 (z_Ok.n12 hOk0)) (by decide), ei15⟩ ⟨by decide, by decide⟩) (cwV 2 hts gL_isSo_X8_ofWell rfl rfl rfl (by decide +kernel) ⟨Nat.le_of_ble_eq_true rfl, Nat.le_of_ble_eq_true rfl⟩) (z_recv (ci := 8) (i := 0) hK hT rfl (by decide) rfl) ⟨hT, hH, hG⟩ hK hN zw_nest_ok rfl hl.1 rfl (Nat.le_of_ble_eq_true rfl) dL_isSo_197 ⟨Nat.le_refl _, Nat.le_refl _⟩ hS (fun _ h => h) (fun H locs hB1 oq1 hz1 hS => ?_)
                    obtain ⟨hT, hH, hG⟩ := hB1
                    refine lv_topi (fun x89 ex89 => ?_)
                    refine lv_if_ge (tgt := 205) hx hb dL_isSo_200 (by decide) (fun c90 => ?_) (fun c90 => absurd c90 (not_not_intro (by rw [ex89, (q_ow (M := M) (N := N) ei15 (Nat.lt_of_lt_of_le hkk14 (z_Ok.n12 hOk0))).2.2.2.2.2.2.2.1]; exact (q_w3 hInv hkk14).2.2.2.2)))
                    refine lv_iload hx hb dL_isSo_205 (lv_at hl 7 rfl) ?_
                    refine lv_aload_n hx hb dL_isSo_207 rfl (lv_at hl 0 rfl) ?_
                    refine lv_iload hx hb dL_isSo_208 (lv_at hl 8 rfl) ?_
                    refine lv_bipush (v := 6) hx hb dL_isSo_210 (by decide) ?_
                    refine z_cVi (D := (dC, dI)) (cl := vwCl) (tys := zt ca) (nw := zw_nest) (C := RX8) (As := [.int i15, .int 6]) (rest := [.int a17]) ⟨hx, hb, hml, hown, hts⟩ (m_X8_ofWell l dC dI ca sf ad hI ad2 hI2 hq M N i15 6 hOk ⟨k14, hkk14, Nat.lt_trans (Nat.lt_of_lt_of_le hkk14 (z_Ok.n12 hOk0)) (by decide), ei15⟩ ⟨by decide, by decide⟩) (cwV 2 hts gL_isSo_X8_ofWell rfl rfl rfl (by decide +kernel) ⟨Nat.le_of_ble_eq_true rfl, Nat.le_of_ble_eq_true rfl⟩) (z_recv (ci := 8) (i := 0) hK hT rfl (by decide) rfl) ⟨hT, hH, hG⟩ hK hN zw_nest_ok rfl hl.1 rfl (Nat.le_of_ble_eq_true rfl) dL_isSo_212 ⟨Nat.le_refl _, Nat.le_refl _⟩ hS (fun _ h => h) (fun H locs hB1 oq1 hz1 hS => ?_)
                    obtain ⟨hT, hH, hG⟩ := hB1
                    refine lv_topi (fun x91 ex91 => ?_)
                    refine lv_iadd hx hb dL_isSo_215 ?_
                    refine lv_topi (fun x92 ex92 => ?_)
                    refine lv_istore (lv' := [(7, .int x92), (0, .ref sf), (1, .int a0), (2, .int a1), (3, .int a2), (4, .int a4), (5, .int a5), (6, .int a6), (8, .int i15)]) hx hb dL_isSo_216 hl (by decide) rfl (fun ls hl => ?_)
                    obtain ⟨x93, ex93⟩ : ∃ z : Int32, z = i15 + 1 := ⟨_, rfl⟩
                    refine lv_iinc (v := x93) (lv' := [(8, .int x93), (7, .int x92), (0, .ref sf), (1, .int a0), (2, .int a1), (3, .int a2), (4, .int a4), (5, .int a5), (6, .int a6)]) hx hb dL_isSo_218 hl (k := 8) rfl (by rw [ex93]; rfl) (by decide) rfl (fun ls hl => ?_)
                    refine lv_goto (tgt := 127) hx hb dL_isSo_221 (by decide) ?_
                    exact ihk14 (k14 + 1) hkk14 (by omega) x92 (by subst ex93; subst ex92; subst ex91; subst ex89; subst ex87; subst ex86; subst ex84; subst ex83; subst ex81; subst ex79; exact q_st hInv h_t.2 (z_Ok.n12 hOk0) hkk14 vk14 (q_ow ei15 (Nat.lt_of_lt_of_le hkk14 (z_Ok.n12 hOk0))).2.2.2.2.2.2.1) x93 (z_nx ei15 ex93) ls (lv_sub hl [2, 3, 4, 5, 6, 7, 8, 1, 0] rfl) _ _ hT hH hG hS
              exact L18 ((zc12 M) + 1) 0 (Nat.zero_le _) (by omega) 0 (rfl) _ rfl ls (lv_sub hl [2, 3, 4, 5, 6, 7, 8, 1, 0] rfl) H locs hT hH hG hS
            · have hkk9 : k9 < 4 := z_lt rfl ei10 hk9 (by decide) c13
              refine lv_aload_n hx hb dL_isSo_104 rfl (lv_at hl 0 rfl) ?_
              refine lv_iload hx hb dL_isSo_105 (lv_at hl 7 rfl) ?_
              refine z_cVi (D := (dC, dI)) (cl := vwCl) (tys := zt ca) (nw := zw_nest) (C := RX8) (As := [.int i10]) (rest := []) ⟨hx, hb, hml, hown, hts⟩ (m_X8_pond l dC dI ca sf ad hI ad2 hI2 hq M N i10 hOk (z_rg_k ei10 hkk9 (by decide) rfl)) (cwV 1 hts gL_isSo_X8_pond rfl rfl rfl (by decide +kernel) ⟨Nat.le_of_ble_eq_true rfl, Nat.le_of_ble_eq_true rfl⟩) (z_recv (ci := 8) (i := 0) hK hT rfl (by decide) rfl) ⟨hT, hH, hG⟩ hK hN zw_nest_ok rfl hl.1 rfl (Nat.le_of_ble_eq_true rfl) dL_isSo_107 ⟨Nat.le_refl _, Nat.le_refl _⟩ hS (fun _ h => h) (fun H locs hB1 oq1 hz1 hS => ?_)
              obtain ⟨hT, hH, hG⟩ := hB1
              refine lv_topi (fun x94 ex94 => ?_)
              refine lv_if_ge (tgt := 115) hx hb dL_isSo_110 (by decide) (fun c95 => ?_) (fun c95 => absurd c95 (not_not_intro (by rw [ex94]; exact q_pd_nn hInv ei10 hkk9)))
              obtain ⟨x96, ex96⟩ : ∃ z : Int32, z = i10 + 1 := ⟨_, rfl⟩
              refine lv_iinc (v := x96) (lv' := [(7, .int x96), (0, .ref sf), (1, .int a0), (2, .int a1), (3, .int a2), (4, .int a4), (5, .int a5), (6, .int a6)]) hx hb dL_isSo_115 hl (k := 7) rfl (by rw [ex96]; rfl) (by decide) rfl (fun ls hl => ?_)
              refine lv_goto (tgt := 98) hx hb dL_isSo_118 (by decide) ?_
              exact ihk9 (k9 + 1) hkk9 (by omega) (trivial) x96 (z_nx ei10 ex96) ls (lv_sub hl [1, 2, 3, 4, 5, 6, 7, 0] rfl) _ _ hT hH hG hS
        exact L12 (4 + 1) 0 (Nat.zero_le _) (by omega) (trivial) _ rfl ls (lv_sub hl [1, 2, 3, 4, 5, 6, 7, 0] rfl) H locs hT hH hG hS
      · have hkk1 : k1 < (zc10 M) := z_lt h_a0 ei2 hk1 (Nat.lt_of_le_of_lt (z_Ok.n10 hOk0) (by decide)) c8
        refine lv_iconst (v := 0) hx hb dL_isSo_20 (by decide) ?_
        refine lv_istore (lv' := [(8, .int 0), (0, .ref sf), (1, .int a0), (2, .int a1), (3, .int a2), (4, .int a4), (5, .int a5), (6, .int a6), (7, .int i2)]) hx hb dL_isSo_21 hl (by decide) rfl (fun ls hl => ?_)
        have L100 : ∀ (d99 k97 : Nat), k97 ≤ 6 → 6 - k97 < d99 → (True) → ∀ i98 : Int32, i98 = nI k97 → ∀ ls : Array Slot, lv_has ls 12 [(0, .ref sf), (1, .int a0), (2, .int a1), (3, .int a2), (4, .int a4), (5, .int a5), (6, .int a6), (7, .int i2), (8, .int i98)] → ∀ (H : Heap) (locs : List Loc), zT dC dI ca sf (ad 0) (ad2 0) H → zW dC dI ca ad M H → zW dC dI ca ad2 N H → va_S (zA2 ad ad2) s.heap H locs → W p l e (headSpec wsL_isSo ({ frames := 4, cells := 0, slots := 0, locals := 86 })).room s m ([.ref sf, .int a0, .int a1, .int a2] : List Value).toArray below meth c H locs 0 0 (MQ below (z_Qi 1 (fun H => zT dC dI ca sf (ad 0) (ad2 0) H ∧ zW dC dI ca ad M H ∧ zW dC dI ca ad2 N H) (zA2 ad ad2)) ([.ref sf, .int a0, .int a1, .int a2] : List Value).toArray s 0 0 (zA2 ad ad2)) (F0 m 23 ls []) := by
          intro d99
          induction d99 with
          | zero => intro k97 hk97 hd; exact absurd hd (by omega)
          | succ d99 ihk97 =>
            intro k97 hk97 hd vk97 i98 ei98 ls hl H locs hT hH hG hS
            refine lv_iload hx hb dL_isSo_23 (lv_at hl 8 rfl) ?_
            refine lv_bipush (v := 6) hx hb dL_isSo_25 (by decide) ?_
            refine lv_icmp_ge (tgt := 49) hx hb dL_isSo_27 (by decide) (fun c101 => ?_) (fun c101 => ?_)
            · have hkk97 : k97 = 6 := z_ge rfl ei98 hk97 (by decide) c101
              refine lv_iload hx hb dL_isSo_49 (lv_at hl 4 rfl) ?_
              refine lv_aload_n hx hb dL_isSo_51 rfl (lv_at hl 0 rfl) ?_
              refine lv_iload hx hb dL_isSo_52 (lv_at hl 7 rfl) ?_
              refine lv_iconst (v := 0) hx hb dL_isSo_54 (by decide) ?_
              refine z_cVi (D := (dC, dI)) (cl := vwCl) (tys := zt ca) (nw := zw_nest) (C := RX8) (As := [.int i2, .int 0]) (rest := [.int a4]) ⟨hx, hb, hml, hown, hts⟩ (m_X8_ofBlock l dC dI ca sf ad hI ad2 hI2 hq M N i2 0 hOk ⟨k1, hkk1, Nat.lt_trans (Nat.lt_of_lt_of_le hkk1 (z_Ok.n10 hOk0)) (by decide), ei2⟩ ⟨by decide, by decide⟩) (cwV 2 hts gL_isSo_X8_ofBlock rfl rfl rfl (by decide +kernel) ⟨Nat.le_of_ble_eq_true rfl, Nat.le_of_ble_eq_true rfl⟩) (z_recv (ci := 8) (i := 0) hK hT rfl (by decide) rfl) ⟨hT, hH, hG⟩ hK hN zw_nest_ok rfl hl.1 rfl (Nat.le_of_ble_eq_true rfl) dL_isSo_55 ⟨Nat.le_refl _, Nat.le_refl _⟩ hS (fun _ h => h) (fun H locs hB1 oq1 hz1 hS => ?_)
              obtain ⟨hT, hH, hG⟩ := hB1
              refine lv_topi (fun x102 ex102 => ?_)
              refine lv_iadd hx hb dL_isSo_58 ?_
              refine lv_topi (fun x103 ex103 => ?_)
              refine lv_istore (lv' := [(4, .int x103), (0, .ref sf), (1, .int a0), (2, .int a1), (3, .int a2), (5, .int a5), (6, .int a6), (7, .int i2), (8, .int i98)]) hx hb dL_isSo_59 hl (by decide) rfl (fun ls hl => ?_)
              refine lv_iload hx hb dL_isSo_61 (lv_at hl 5 rfl) ?_
              refine lv_aload_n hx hb dL_isSo_63 rfl (lv_at hl 1 rfl) ?_
              refine lv_iload hx hb dL_isSo_64 (lv_at hl 7 rfl) ?_
              refine lv_iconst (v := 5) hx hb dL_isSo_66 (by decide) ?_
              refine z_cVi (D := (dC, dI)) (cl := vwCl) (tys := zt ca) (nw := zw_nest) (C := RX8) (As := [.int i2, .int 5]) (rest := [.int a5]) ⟨hx, hb, hml, hown, hts⟩ (m_X8_ofBlock l dC dI ca sf ad hI ad2 hI2 hq M N i2 5 hOk ⟨k1, hkk1, Nat.lt_trans (Nat.lt_of_lt_of_le hkk1 (z_Ok.n10 hOk0)) (by decide), ei2⟩ ⟨by decide, by decide⟩) (cwV 2 hts gL_isSo_X8_ofBlock rfl rfl rfl (by decide +kernel) ⟨Nat.le_of_ble_eq_true rfl, Nat.le_of_ble_eq_true rfl⟩) (z_recv (ci := 8) (i := 0) hK hT rfl (by decide) rfl) ⟨hT, hH, hG⟩ hK hN zw_nest_ok rfl hl.1 rfl (Nat.le_of_ble_eq_true rfl) dL_isSo_67 ⟨Nat.le_refl _, Nat.le_refl _⟩ hS (fun _ h => h) (fun H locs hB1 oq1 hz1 hS => ?_)
              obtain ⟨hT, hH, hG⟩ := hB1
              refine lv_topi (fun x104 ex104 => ?_)
              refine va_mmin hx hb (hml.trans hl.1.symm) hown (hts (.methodLink RL 89 Lib.Math.min.name) (by decide +kernel)) (hts (.static Lib.Math.min.name) (by decide +kernel)) (hts (.initialized "java/lang/Math") (by decide +kernel)) (hts (.code Lib.Math.min.name Lib.Math.min.code 2 (some .int)) (by decide +kernel)) (Nat.le_of_ble_eq_true rfl) (Nat.le_of_ble_eq_true rfl) (Nat.le_refl _) (Nat.le_refl _) dL_isSo_70 ?_
              refine lv_topi (fun x105 ex105 => ?_)
              refine lv_istore (lv' := [(5, .int x105), (4, .int x103), (0, .ref sf), (1, .int a0), (2, .int a1), (3, .int a2), (6, .int a6), (7, .int i2), (8, .int i98)]) hx hb dL_isSo_73 hl (by decide) rfl (fun ls hl => ?_)
              refine lv_iload hx hb dL_isSo_75 (lv_at hl 6 rfl) ?_
              refine lv_aload_n hx hb dL_isSo_77 rfl (lv_at hl 2 rfl) ?_
              refine lv_iload hx hb dL_isSo_78 (lv_at hl 7 rfl) ?_
              refine lv_iconst (v := 5) hx hb dL_isSo_80 (by decide) ?_
              refine z_cVi (D := (dC, dI)) (cl := vwCl) (tys := zt ca) (nw := zw_nest) (C := RX8) (As := [.int i2, .int 5]) (rest := [.int a6]) ⟨hx, hb, hml, hown, hts⟩ (m_X8_ofBlock l dC dI ca sf ad hI ad2 hI2 hq M N i2 5 hOk ⟨k1, hkk1, Nat.lt_trans (Nat.lt_of_lt_of_le hkk1 (z_Ok.n10 hOk0)) (by decide), ei2⟩ ⟨by decide, by decide⟩) (cwV 2 hts gL_isSo_X8_ofBlock rfl rfl rfl (by decide +kernel) ⟨Nat.le_of_ble_eq_true rfl, Nat.le_of_ble_eq_true rfl⟩) (z_recv (ci := 8) (i := 0) hK hT rfl (by decide) rfl) ⟨hT, hH, hG⟩ hK hN zw_nest_ok rfl hl.1 rfl (Nat.le_of_ble_eq_true rfl) dL_isSo_81 ⟨Nat.le_refl _, Nat.le_refl _⟩ hS (fun _ h => h) (fun H locs hB1 oq1 hz1 hS => ?_)
              obtain ⟨hT, hH, hG⟩ := hB1
              refine lv_topi (fun x106 ex106 => ?_)
              refine va_mmax hx hb (hml.trans hl.1.symm) hown (hts (.methodLink RL 94 Lib.Math.max.name) (by decide +kernel)) (hts (.static Lib.Math.max.name) (by decide +kernel)) (hts (.initialized "java/lang/Math") (by decide +kernel)) (hts (.code Lib.Math.max.name Lib.Math.max.code 2 (some .int)) (by decide +kernel)) (Nat.le_of_ble_eq_true rfl) (Nat.le_of_ble_eq_true rfl) (Nat.le_refl _) (Nat.le_refl _) dL_isSo_84 ?_
              refine lv_topi (fun x107 ex107 => ?_)
              refine lv_istore (lv' := [(6, .int x107), (5, .int x105), (4, .int x103), (0, .ref sf), (1, .int a0), (2, .int a1), (3, .int a2), (7, .int i2), (8, .int i98)]) hx hb dL_isSo_87 hl (by decide) rfl (fun ls hl => ?_)
              obtain ⟨x108, ex108⟩ : ∃ z : Int32, z = i2 + 1 := ⟨_, rfl⟩
              refine lv_iinc (v := x108) (lv' := [(7, .int x108), (6, .int x107), (5, .int x105), (4, .int x103), (0, .ref sf), (1, .int a0), (2, .int a1), (3, .int a2), (8, .int i98)]) hx hb dL_isSo_89 hl (k := 7) rfl (by rw [ex108]; rfl) (by decide) rfl (fun ls hl => ?_)
              refine lv_goto (tgt := 14) hx hb dL_isSo_92 (by decide) ?_
              exact ihk1 (k1 + 1) hkk1 (by omega) x103 x105 x107 (by subst ex108; subst ex107; subst ex106; subst ex105; subst ex104; subst ex103; subst ex102; exact zI1_s hInv (by rw [← hInv.1]; exact hkk1) vk1 (q_ob ei2 (Nat.lt_of_lt_of_le hkk1 (z_Ok.n10 hOk0))).1 (q_ob ei2 (Nat.lt_of_lt_of_le hkk1 (z_Ok.n10 hOk0))).2.2) x108 (z_nx ei2 ex108) ls (lv_sub hl [4, 5, 6, 7, 3, 2, 1, 0] rfl) _ _ hT hH hG hS
            · have hkk97 : k97 < 6 := z_lt rfl ei98 hk97 (by decide) c101
              refine lv_aload_n hx hb dL_isSo_30 rfl (lv_at hl 0 rfl) ?_
              refine lv_iload hx hb dL_isSo_31 (lv_at hl 7 rfl) ?_
              refine lv_iload hx hb dL_isSo_33 (lv_at hl 8 rfl) ?_
              refine z_cVi (D := (dC, dI)) (cl := vwCl) (tys := zt ca) (nw := zw_nest) (C := RX8) (As := [.int i2, .int i98]) (rest := []) ⟨hx, hb, hml, hown, hts⟩ (m_X8_ofBlock l dC dI ca sf ad hI ad2 hI2 hq M N i2 i98 hOk ⟨k1, hkk1, Nat.lt_trans (Nat.lt_of_lt_of_le hkk1 (z_Ok.n10 hOk0)) (by decide), ei2⟩ (z_rg_k ei98 hkk97 (by decide) rfl)) (cwV 2 hts gL_isSo_X8_ofBlock rfl rfl rfl (by decide +kernel) ⟨Nat.le_of_ble_eq_true rfl, Nat.le_of_ble_eq_true rfl⟩) (z_recv (ci := 8) (i := 0) hK hT rfl (by decide) rfl) ⟨hT, hH, hG⟩ hK hN zw_nest_ok rfl hl.1 rfl (Nat.le_of_ble_eq_true rfl) dL_isSo_35 ⟨Nat.le_refl _, Nat.le_refl _⟩ hS (fun _ h => h) (fun H locs hB1 oq1 hz1 hS => ?_)
              obtain ⟨hT, hH, hG⟩ := hB1
              refine lv_topi (fun x109 ex109 => ?_)
              refine lv_if_ge (tgt := 43) hx hb dL_isSo_38 (by decide) (fun c110 => ?_) (fun c110 => absurd c110 (not_not_intro (by rw [ex109]; exact q_ob_nn hInv ei2 (by rw [← hInv.1]; exact hkk1) ei98 hkk97)))
              obtain ⟨x111, ex111⟩ : ∃ z : Int32, z = i98 + 1 := ⟨_, rfl⟩
              refine lv_iinc (v := x111) (lv' := [(8, .int x111), (0, .ref sf), (1, .int a0), (2, .int a1), (3, .int a2), (4, .int a4), (5, .int a5), (6, .int a6), (7, .int i2)]) hx hb dL_isSo_43 hl (k := 8) rfl (by rw [ex111]; rfl) (by decide) rfl (fun ls hl => ?_)
              refine lv_goto (tgt := 23) hx hb dL_isSo_46 (by decide) ?_
              exact ihk97 (k97 + 1) hkk97 (by omega) (trivial) x111 (z_nx ei98 ex111) ls (lv_sub hl [1, 2, 3, 4, 5, 6, 7, 8, 0] rfl) _ _ hT hH hG hS
        exact L100 (6 + 1) 0 (Nat.zero_le _) (by omega) (trivial) _ rfl ls (lv_sub hl [1, 2, 3, 4, 5, 6, 7, 8, 0] rfl) H locs hT hH hG hS
  exact L7 ((zc10 M) + 1) 0 (Nat.zero_le _) (by omega) 0 400 0 (zI1_0 M) _ rfl ls (lv_sub hl [4, 5, 6, 7, 3, 2, 1, 0] rfl) s.heap [] hT hH hG hS
