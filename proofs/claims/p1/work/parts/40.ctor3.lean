theorem zdL_a : ∀ i, (zdL 0 0 0 0).1 i < 200 → (zdL 0 0 0 0).1 i = (zdr (zdk (zdr (zdk (zdr (zdk (zdr (zdr (zdk (zdr (zdk (zdr (zdk (zdk (zdr (zdk (zdr (zdk (zdr (zdk (zdr (zdk (zdr (zdk (zdr (zdk (zdk zde 0 3) 1 101) 0 0 1) 2 102) 0 1 2) 3 103) 0 2 3) 4 104) 0 3 4) 5 6) 0 4 5) 6 4) 0 5 6) 7 1) 11 6) 7 0 11) 12 6) 7 1 12) 13 6) 7 2 13) 0 6 7) 8 100) 0 7 8) 9 100) 0 8 9) 10 6) 0 9 10).1 i ∧ (∀ q, (zdL 0 0 0 0).2.1 i q = (zdr (zdk (zdr (zdk (zdr (zdk (zdr (zdr (zdk (zdr (zdk (zdr (zdk (zdk (zdr (zdk (zdr (zdk (zdr (zdk (zdr (zdk (zdr (zdk (zdr (zdk (zdk zde 0 3) 1 101) 0 0 1) 2 102) 0 1 2) 3 103) 0 2 3) 4 104) 0 3 4) 5 6) 0 4 5) 6 4) 0 5 6) 7 1) 11 6) 7 0 11) 12 6) 7 1 12) 13 6) 7 2 13) 0 6 7) 8 100) 0 7 8) 9 100) 0 8 9) 10 6) 0 9 10).2.1 i q) ∧ (zdL 0 0 0 0).2.2 i = (zdr (zdk (zdr (zdk (zdr (zdk (zdr (zdr (zdk (zdr (zdk (zdr (zdk (zdk (zdr (zdk (zdr (zdk (zdr (zdk (zdr (zdk (zdr (zdk (zdr (zdk (zdk zde 0 3) 1 101) 0 0 1) 2 102) 0 1 2) 3 103) 0 2 3) 4 104) 0 3 4) 5 6) 0 4 5) 6 4) 0 5 6) 7 1) 11 6) 7 0 11) 12 6) 7 1 12) 13 6) 7 2 13) 0 6 7) 8 100) 0 7 8) 9 100) 0 8 9) 10 6) 0 9 10).2.2 i := by
  intro i hi
  have h14 : i < 14 := by
    rcases Nat.lt_or_ge i 14 with h | h
    · exact h
    · exfalso
      simp only [zdL] at hi
      rw [if_neg (by omega), if_neg (by omega), if_neg (by omega), if_neg (by omega), if_neg (by omega), if_neg (by omega)] at hi
      omega
  clear hi
  refine ⟨?_, fun q => ?_, rfl⟩
  · rcases (show i = 0 ∨ i = 1 ∨ i = 2 ∨ i = 3 ∨ i = 4 ∨ i = 5 ∨ i = 6 ∨ i = 7 ∨ i = 8 ∨ i = 9 ∨ i = 10 ∨ i = 11 ∨ i = 12 ∨ i = 13 by omega) with h | h | h | h | h | h | h | h | h | h | h | h | h | h <;> subst h <;> rfl
  · by_cases h0 : i = 0
    · subst h0
      by_cases hq : q < 10
      · rcases (show q = 0 ∨ q = 1 ∨ q = 2 ∨ q = 3 ∨ q = 4 ∨ q = 5 ∨ q = 6 ∨ q = 7 ∨ q = 8 ∨ q = 9 by omega) with h | h | h | h | h | h | h | h | h | h <;> subst h <;> rfl
      · have e : (zdL 0 0 0 0).2.1 0 q = none := by
          simp only [zdL]
          rw [if_pos trivial, if_neg hq]
        refine e.trans (Eq.symm ?_)
        simp only [zdr, zdk, zde]
        repeat rw [if_neg (by omega)]
    · by_cases h7 : i = 7
      · subst h7
        by_cases hq : q < 3
        · rcases (show q = 0 ∨ q = 1 ∨ q = 2 by omega) with h | h | h <;> subst h <;> rfl
        · have e : (zdL 0 0 0 0).2.1 7 q = none := by
            simp only [zdL]
            rw [if_pos trivial, if_neg hq, if_neg h0]
          refine e.trans (Eq.symm ?_)
          simp only [zdr, zdk, zde]
          repeat rw [if_neg (by omega)]
      · refine ((if_neg h0).trans ((if_neg h7).trans ((if_neg (by omega)).trans ((if_neg (by omega)).trans ((if_neg (by omega)).trans ((if_neg (by omega)).trans (if_neg (by omega)))))))).trans (Eq.symm ?_)
        simp only [zdr, zdk, zde]
        repeat rw [if_neg (by omega)]
set_option maxHeartbeats 4000000 in
set_option maxRecDepth 100000 in
theorem m_X3_init (l : Launch) (dC : Nat → ClassId) (dI : Nat → Nat → Nat) (ca : Nat → ClassId) (h0 sz : Nat) (hl0 : h0 < sz) : Met l yX3_init wsX3_init ({ frames := 3, cells := 50, slots := 245, locals := 53 }) (z_Pn (dC, dI) vwCl (zt ca) zw_nest [.ref (zad h0 sz 0)] (fun H => H.size = sz + 0 ∧ z_H (dC, dI) vwCl zf ca (zdk zde 0 3) (zad h0 sz) zM0 H)) (z_Qv (fun H => H.size = sz + 50 ∧ zW dC dI ca (zad h0 sz) zMi H) (fun q => q = h0 ∨ sz ≤ q)) 50 245 (fun q => q = h0 ∨ sz ≤ q) := by
  refine Met.ofW (cc := cX3_init) (maxL := 2) (ret := none) (by decide) rfl ?_
  intro p e s m args below meth c s₁ B9 hml hv
  obtain ⟨rfl, ⟨hz, hH⟩, hK, hN, hX⟩ := hv
  have hx := B9.exec
  have hb := B9.bytes
  have hr := B9.returns
  have hts := atoms_spec (ws := wsX3_init) B9.pre
  have hown : s.vm.findClass RX3 = some m.cls := findClass_of_methodNamed B9.named
  have hlocks := B9.notSynchronized
  have hin2 : meth.name = "<init>" := (name_of_methodNamed B9.named B9.method).1
  have hS : va_S (fun q => q = h0 ∨ sz ≤ q) s.heap s.heap [] := va_S.rf
  have hA : ∀ q, s.heap.size ≤ q → (fun q => q = h0 ∨ sz ≤ q) q := fun q h => Or.inr (by rw [hz] at h; exact h)
  have hinX0 : ∀ w ∈ u_ws RX0 TX0 3, w ∈ wsX3_init := by decide +kernel
  have hinX1 : ∀ w ∈ u_ws RX1 TX1 5, w ∈ wsX3_init := by decide +kernel
  have hinX2 : ∀ w ∈ u_ws RX2 TX2 4, w ∈ wsX3_init := by decide +kernel
  have hinX3 : ∀ w ∈ u_ws RX3 TX3 15, w ∈ wsX3_init := by decide +kernel
  have hinX4 : ∀ w ∈ u_ws RX4 TX4 6, w ∈ wsX3_init := by decide +kernel
  have hinX5 : ∀ w ∈ u_ws RX5 TX5 7, w ∈ wsX3_init := by decide +kernel
  have hinX6 : ∀ w ∈ u_ws RX6 TX6 4, w ∈ wsX3_init := by decide +kernel
  have hinX7 : ∀ w ∈ u_ws RX7 TX7 9, w ∈ wsX3_init := by decide +kernel
  have K204 : ∀ ls : Array Slot, lv_has ls 2 [(0, .ref (zad h0 sz 0))] → ∀ (H : Heap) (locs : List Loc), H.size = sz + 50 → z_H (dC, dI) vwCl zf ca (zdL 8 12 6 3) (zad h0 sz) zMp H → va_S (fun q => q = h0 ∨ sz ≤ q) s.heap H locs → W p l e (headSpec wsX3_init ({ frames := 3, cells := 50, slots := 245, locals := 53 })).room s m ([.ref (zad h0 sz 0)] : List Value).toArray below meth c H locs (50) (245) (MQ below (z_Qv (fun H => H.size = sz + 50 ∧ zW dC dI ca (zad h0 sz) zMi H) (fun q => q = h0 ∨ sz ≤ q)) ([.ref (zad h0 sz 0)] : List Value).toArray s 50 245 (fun q => q = h0 ∨ sz ≤ q)) (F0 m 204 ls []) := by
    intro ls hl H locs hz hH hS
    have hs := zdL_sub (kb := 8) (kf := 12) (kw := 6) (ks := 3) (by decide) (by decide) (by decide) (by decide)
    refine lv_iconst (v := 0) hx hb dX3_init_204 (by decide) ?_
    refine lv_istore_n (lv' := [(1, .int 0), (0, .ref (zad h0 sz 0))]) hx hb dX3_init_205 rfl hl (by decide) rfl (fun ls hl => ?_)
    refine lv_iload_n hx hb dX3_init_206 rfl (lv_at hl 0 rfl) ?_
    refine lv_iconst (v := 2) hx hb dX3_init_207 (by decide) ?_
    refine lv_icmp_ge (tgt := 225) hx hb dX3_init_208 (by decide) (fun c1 => absurd c1 (by decide)) (fun _ => ?_)
    refine lv_aload_n hx hb dX3_init_211 rfl (lv_at hl 1 rfl) ?_
    refine z_gr (D := (dC, dI)) (cl := vwCl) (C := RX3) (T := TX3) (N := 15) (ci := 3) (i := 0) (j := 8) (k := 7) hx hb hts hinX3 hown hK hH rfl (by decide) rfl (by decide) rfl rfl (hts (.fieldLink RX3 56 "Steamfield$Land" "coins" "[I") (by decide +kernel)) (fun _ h9 => h9) dX3_init_212 ?_
    refine lv_iload_n hx hb dX3_init_215 rfl (lv_at hl 0 rfl) ?_
    refine lv_bipush (v := 100) hx hb dX3_init_216 (by decide) ?_
    refine zp_as (t0 := 0) (D := (dC, dI)) (cl := vwCl) (tys := zt ca) (i := 8) hx hb hK hH (zI_zad hs hl0) hS (zA_zad hs) rfl rfl (show vp_in 0 2 from zx (n := 0) rfl (by decide) (by decide)) dX3_init_218 (fun H1 locs hH1 oq hS => ?_)
    rw [show (0 : Int32).toNatClampNeg = 0 from rfl] at hH1
    have hz1 : H1.size = sz + 50 := by rw [z_size oq (hH.lt (i := 8) (by decide)) (hH1.lt (i := 8) (by decide)), hz]
    refine lv_iinc (v := 1) (lv' := [(1, .int 1), (0, .ref (zad h0 sz 0))]) hx hb dX3_init_219 hl (k := 0) rfl (by decide) (by decide) rfl (fun ls hl => ?_)
    refine lv_goto (tgt := 206) hx hb dX3_init_222 (by decide) ?_
    refine lv_iload_n hx hb dX3_init_206 rfl (lv_at hl 0 rfl) ?_
    refine lv_iconst (v := 2) hx hb dX3_init_207 (by decide) ?_
    refine lv_icmp_ge (tgt := 225) hx hb dX3_init_208 (by decide) (fun c1 => absurd c1 (by decide)) (fun _ => ?_)
    refine lv_aload_n hx hb dX3_init_211 rfl (lv_at hl 1 rfl) ?_
    refine z_gr (D := (dC, dI)) (cl := vwCl) (C := RX3) (T := TX3) (N := 15) (ci := 3) (i := 0) (j := 8) (k := 7) hx hb hts hinX3 hown hK hH1 rfl (by decide) rfl (by decide) rfl rfl (hts (.fieldLink RX3 56 "Steamfield$Land" "coins" "[I") (by decide +kernel)) (fun _ h9 => h9) dX3_init_212 ?_
    refine lv_iload_n hx hb dX3_init_215 rfl (lv_at hl 0 rfl) ?_
    refine lv_bipush (v := 100) hx hb dX3_init_216 (by decide) ?_
    refine zp_as (t0 := 0) (D := (dC, dI)) (cl := vwCl) (tys := zt ca) (i := 8) hx hb hK hH1 (zI_zad hs hl0) hS (zA_zad hs) rfl rfl (show vp_in 1 2 from zx (n := 1) rfl (by decide) (by decide)) dX3_init_218 (fun H2 locs hH2 oq hS => ?_)
    rw [show (1 : Int32).toNatClampNeg = 1 from rfl] at hH2
    have hz2 : H2.size = sz + 50 := by rw [z_size oq (hH1.lt (i := 8) (by decide)) (hH2.lt (i := 8) (by decide)), hz1]
    refine lv_iinc (v := 2) (lv' := [(1, .int 2), (0, .ref (zad h0 sz 0))]) hx hb dX3_init_219 hl (k := 0) rfl (by decide) (by decide) rfl (fun ls hl => ?_)
    refine lv_goto (tgt := 206) hx hb dX3_init_222 (by decide) ?_
    refine lv_iload_n hx hb dX3_init_206 rfl (lv_at hl 0 rfl) ?_
    refine lv_iconst (v := 2) hx hb dX3_init_207 (by decide) ?_
    refine lv_icmp_ge (tgt := 225) hx hb dX3_init_208 (by decide) (fun _ => ?_) (fun c1 => absurd (by decide) c1)
    exact W.vret hx hb hr (fun t ht hW => ⟨⟨(), rfl, trivial, z_to (B := (fun H => H.size = sz + 50 ∧ zW dC dI ca (zad h0 sz) zMi H)) ht ⟨hz2, hH2.desc zdL_end⟩⟩, hS.F ht⟩) hS.2.2 dX3_init_225
  have L178 : ∀ (d k : Nat), k ≤ 3 → 3 - k < d → ∀ x : Int32, x = nI k → ∀ ls : Array Slot, lv_has ls 2 [(0, .ref (zad h0 sz 0)), (1, .int x)] → ∀ (H : Heap) (locs : List Loc), H.size = sz + (47 + k) → z_H (dC, dI) vwCl zf ca (zdL 8 12 6 k) (zad h0 sz) zMp H → va_S (fun q => q = h0 ∨ sz ≤ q) s.heap H locs → W p l e (headSpec wsX3_init ({ frames := 3, cells := 50, slots := 245, locals := 53 })).room s m ([.ref (zad h0 sz 0)] : List Value).toArray below meth c H locs (47 + k) (224 + 7 * k) (MQ below (z_Qv (fun H => H.size = sz + 50 ∧ zW dC dI ca (zad h0 sz) zMi H) (fun q => q = h0 ∨ sz ≤ q)) ([.ref (zad h0 sz 0)] : List Value).toArray s 50 245 (fun q => q = h0 ∨ sz ≤ q)) (F0 m 180 ls []) := by
    intro d
    induction d with
    | zero => intro k hk hd; exact absurd hd (by omega)
    | succ d ih =>
      intro k hk hd x ex ls hl H locs hz hH hS
      refine lv_iload_n hx hb dX3_init_180 rfl (lv_at hl 1 rfl) ?_
      refine lv_iconst (v := 3) hx hb dX3_init_181 (by decide) ?_
      refine lv_icmp_ge (tgt := 204) hx hb dX3_init_182 (by decide) (fun c1 => ?_) (fun c1 => ?_)
      · have hk8 : k = 3 := z_ge rfl ex hk (by decide) c1
        subst hk8
        exact K204 ls (lv_sub hl [0] rfl) H locs hz hH hS
      · have hk8 : k < 3 := z_lt rfl ex hk (by decide) c1
        have hs := (zdL_sub (kb := 8) (kf := 12) (kw := 6) (ks := k) (by omega) (by omega) (by omega) (by omega))
        have hkk : zk (70 + k) < 200 := by rw [zk_s hk8]; decide
        refine lv_aload_n hx hb dX3_init_185 rfl (lv_at hl 0 rfl) ?_
        refine z_gr (D := (dC, dI)) (cl := vwCl) (C := RX3) (T := TX3) (N := 15) (ci := 3) (i := 0) (j := 4) (k := 3) hx hb hts hinX3 hown hK hH rfl (by decide) rfl (by decide) rfl rfl (hts (.fieldLink RX3 31 "Steamfield$Land" "springs" "[LSteamfield$Spring;") (by decide +kernel)) (fun _ h9 => h9) dX3_init_186 ?_
        refine lv_iload_n hx hb dX3_init_189 rfl (lv_at hl 1 rfl) ?_
        refine z_new (D := (dC, dI)) (cl := vwCl) (fl := zf) (ca := ca) (ad := zad h0 sz) (C := RX5) (T := TX5) (N := 7) (ci := 5) (i := 70 + k) hx hb hts hinX5 tyX5 tyX5_ok hown (hts (.classLink RX3 29 RX5) (by decide +kernel)) (hts (.instantiable RX5 7) (by decide +kernel)) (hts (.initialized RX5) (by decide +kernel)) hK hH hS hA rfl (by decide) (by rw [hz]; unfold zad zo; (repeat rw [if_neg (by omega)]); first | (rw [if_pos (by omega)]; omega) | omega) (by intro q; simp only [zdL]; (repeat rw [if_neg (by omega)])) (zMp_0 (by omega)) (z_born 5 tyX5 7 (by decide)) (by show 47 + k + 1 ≤ 50; omega) (by show 224 + 7 * k + 7 ≤ 245; omega) dX3_init_190 (fun H hH z1 o1 hS => ?_)
        have hz : H.size = sz + (47 + k + 1) := by omega
        have hs := hs.k 5 (i := 70 + k) hkk
        refine lv_dup hx hb dX3_init_193 rfl ?_
        refine z_cIN (D := (dC, dI)) (cl := vwCl) (tys := zt ca) (nw := zw_nest) (As := []) (rest := [.ref (zad h0 sz (70 + k)), .int x, .ref (zad h0 sz 4)]) ⟨hx, hb, hml, hown, hts⟩ (m_X5_init l dC dI ca (fun z => z = H) (zad h0 sz (70 + k))) ⟨va_cnB 0 hts gX3_init_X5_init_n69 rfl rfl rfl (hN (.methodLinkNest RX3 69 yX5_init "Steamfield") (by decide +kernel)) (hts (.initialized RX5) (by decide +kernel)) (by decide +kernel) ⟨Nat.le_of_ble_eq_true rfl, Nat.le_of_ble_eq_true rfl⟩, rfl, hts (.instanceMethod yX5_init) (by decide +kernel)⟩ rfl hK hN hX zw_nest_ok rfl hl.1 rfl (Nat.le_of_ble_eq_true rfl) dX3_init_194 ⟨by show 47 + k + 1 + 0 ≤ 50; omega, by show 224 + 7 * k + 7 + 0 ≤ 245; omega⟩ hS (fun _ h => h.elim) (fun H locs hB1 oq1 hz1 hS => ?_)
        rw [← hB1] at hH hz
        refine z_ast (t0 := 4) (D := (dC, dI)) (cl := vwCl) (tys := zt ca) (i := 4) (j := 70 + k) (kd := 104) (ci := 5) (r := (RX5, TX5, 7)) hx hb hK hH (hs.inj hl0 (by decide)) hS (Or.inr (zad_rng (i := 4) (by decide) (by decide)).1) (by simp only [zdr, zdk]; (repeat rw [if_neg (by omega)]); rfl) (by decide) (by decide) rfl (if_pos rfl) (by decide) rfl (show vp_in x 3 from zx ex hk8 (by decide)) dX3_init_197 (fun H locs hH z2 oq hS => ?_)
        rw [zx_n ex (by omega)] at hH
        have hH := hH.desc (zdL_s k)
        obtain ⟨x2, ex2⟩ : ∃ z : Int32, z = x + 1 := ⟨_, rfl⟩
        refine lv_iinc (v := x2) (lv' := [(1, .int x2), (0, .ref (zad h0 sz 0))]) hx hb dX3_init_198 hl (k := 1) rfl (by rw [ex2]; rfl) (by decide) rfl (fun ls hl => ?_)
        refine lv_goto (tgt := 180) hx hb dX3_init_201 (by decide) ?_
        have q1 : 47 + k + 1 = 47 + (k + 1) := by omega
        have q2 : 224 + 7 * k + 7 = 224 + 7 * (k + 1) := by omega
        have J := ih (k + 1) hk8 (by omega) x2 (z_nx ex ex2) ls (lv_sub hl [1, 0] rfl) H locs (by rw [z2, hz]; omega) hH hS
        rw [← q1, ← q2] at J
        exact J
  have K178 : ∀ ls : Array Slot, lv_has ls 2 [(0, .ref (zad h0 sz 0))] → ∀ (H : Heap) (locs : List Loc), H.size = sz + 47 → z_H (dC, dI) vwCl zf ca (zdL 8 12 6 0) (zad h0 sz) zMp H → va_S (fun q => q = h0 ∨ sz ≤ q) s.heap H locs → W p l e (headSpec wsX3_init ({ frames := 3, cells := 50, slots := 245, locals := 53 })).room s m ([.ref (zad h0 sz 0)] : List Value).toArray below meth c H locs (47) (224) (MQ below (z_Qv (fun H => H.size = sz + 50 ∧ zW dC dI ca (zad h0 sz) zMi H) (fun q => q = h0 ∨ sz ≤ q)) ([.ref (zad h0 sz 0)] : List Value).toArray s 50 245 (fun q => q = h0 ∨ sz ≤ q)) (F0 m 178 ls []) := by
    intro ls hl H locs hz hH hS
    refine lv_iconst (v := 0) hx hb dX3_init_178 (by decide) ?_
    refine lv_istore_n (lv' := [(1, .int 0), (0, .ref (zad h0 sz 0))]) hx hb dX3_init_179 rfl hl (by decide) rfl (fun ls hl => ?_)
    exact L178 4 0 (Nat.zero_le _) (by decide) 0 rfl ls (lv_sub hl [1, 0] rfl) H locs hz hH hS
  have L151 : ∀ (d k : Nat), k ≤ 6 → 6 - k < d → ∀ x : Int32, x = nI k → ∀ ls : Array Slot, lv_has ls 2 [(0, .ref (zad h0 sz 0)), (1, .int x)] → ∀ (H : Heap) (locs : List Loc), H.size = sz + (41 + k) → z_H (dC, dI) vwCl zf ca (zdL 8 12 k 0) (zad h0 sz) zMp H → va_S (fun q => q = h0 ∨ sz ≤ q) s.heap H locs → W p l e (headSpec wsX3_init ({ frames := 3, cells := 50, slots := 245, locals := 53 })).room s m ([.ref (zad h0 sz 0)] : List Value).toArray below meth c H locs (41 + k) (170 + 9 * k) (MQ below (z_Qv (fun H => H.size = sz + 50 ∧ zW dC dI ca (zad h0 sz) zMi H) (fun q => q = h0 ∨ sz ≤ q)) ([.ref (zad h0 sz 0)] : List Value).toArray s 50 245 (fun q => q = h0 ∨ sz ≤ q)) (F0 m 153 ls []) := by
    intro d
    induction d with
    | zero => intro k hk hd; exact absurd hd (by omega)
    | succ d ih =>
      intro k hk hd x ex ls hl H locs hz hH hS
      refine lv_iload_n hx hb dX3_init_153 rfl (lv_at hl 1 rfl) ?_
      refine lv_bipush (v := 6) hx hb dX3_init_154 (by decide) ?_
      refine lv_icmp_ge (tgt := 178) hx hb dX3_init_156 (by decide) (fun c1 => ?_) (fun c1 => ?_)
      · have hk8 : k = 6 := z_ge rfl ex hk (by decide) c1
        subst hk8
        exact K178 ls (lv_sub hl [0] rfl) H locs hz hH hS
      · have hk8 : k < 6 := z_lt rfl ex hk (by decide) c1
        have hs := (zdL_sub (kb := 8) (kf := 12) (kw := k) (ks := 0) (by omega) (by omega) (by omega) (by omega))
        have hkk : zk (60 + k) < 200 := by rw [zk_v hk8]; decide
        refine lv_aload_n hx hb dX3_init_159 rfl (lv_at hl 0 rfl) ?_
        refine z_gr (D := (dC, dI)) (cl := vwCl) (C := RX3) (T := TX3) (N := 15) (ci := 3) (i := 0) (j := 3) (k := 2) hx hb hts hinX3 hown hK hH rfl (by decide) rfl (by decide) rfl rfl (hts (.fieldLink RX3 25 "Steamfield$Land" "wells" "[LSteamfield$Well;") (by decide +kernel)) (fun _ h9 => h9) dX3_init_160 ?_
        refine lv_iload_n hx hb dX3_init_163 rfl (lv_at hl 1 rfl) ?_
        refine z_new (D := (dC, dI)) (cl := vwCl) (fl := zf) (ca := ca) (ad := zad h0 sz) (C := RX7) (T := TX7) (N := 9) (ci := 7) (i := 60 + k) hx hb hts hinX7 tyX7 tyX7_ok hown (hts (.classLink RX3 23 RX7) (by decide +kernel)) (hts (.instantiable RX7 9) (by decide +kernel)) (hts (.initialized RX7) (by decide +kernel)) hK hH hS hA rfl (by decide) (by rw [hz]; unfold zad zo; (repeat rw [if_neg (by omega)]); first | (rw [if_pos (by omega)]; omega) | omega) (by intro q; simp only [zdL]; (repeat rw [if_neg (by omega)])) (zMp_0 (by omega)) (z_born 7 tyX7 9 (by decide)) (by show 41 + k + 1 ≤ 50; omega) (by show 170 + 9 * k + 9 ≤ 245; omega) dX3_init_164 (fun H hH z1 o1 hS => ?_)
        have hz : H.size = sz + (41 + k + 1) := by omega
        have hs := hs.k 7 (i := 60 + k) hkk
        refine lv_dup hx hb dX3_init_167 rfl ?_
        refine z_cIN (D := (dC, dI)) (cl := vwCl) (tys := zt ca) (nw := zw_nest) (As := []) (rest := [.ref (zad h0 sz (60 + k)), .int x, .ref (zad h0 sz 3)]) ⟨hx, hb, hml, hown, hts⟩ (m_X7_init l dC dI ca (fun z => z = H) (zad h0 sz (60 + k))) ⟨va_cnB 0 hts gX3_init_X7_init_n68 rfl rfl rfl (hN (.methodLinkNest RX3 68 yX7_init "Steamfield") (by decide +kernel)) (hts (.initialized RX7) (by decide +kernel)) (by decide +kernel) ⟨Nat.le_of_ble_eq_true rfl, Nat.le_of_ble_eq_true rfl⟩, rfl, hts (.instanceMethod yX7_init) (by decide +kernel)⟩ rfl hK hN hX zw_nest_ok rfl hl.1 rfl (Nat.le_of_ble_eq_true rfl) dX3_init_168 ⟨by show 41 + k + 1 + 0 ≤ 50; omega, by show 170 + 9 * k + 9 + 0 ≤ 245; omega⟩ hS (fun _ h => h.elim) (fun H locs hB1 oq1 hz1 hS => ?_)
        rw [← hB1] at hH hz
        refine z_ast (t0 := 3) (D := (dC, dI)) (cl := vwCl) (tys := zt ca) (i := 3) (j := 60 + k) (kd := 103) (ci := 7) (r := (RX7, TX7, 9)) hx hb hK hH (hs.inj hl0 (by decide)) hS (Or.inr (zad_rng (i := 3) (by decide) (by decide)).1) (by simp only [zdr, zdk]; (repeat rw [if_neg (by omega)]); rfl) (by decide) (by decide) rfl (if_pos rfl) (by decide) rfl (show vp_in x 6 from zx ex hk8 (by decide)) dX3_init_171 (fun H locs hH z2 oq hS => ?_)
        rw [zx_n ex (by omega)] at hH
        have hH := hH.desc (zdL_w k)
        obtain ⟨x2, ex2⟩ : ∃ z : Int32, z = x + 1 := ⟨_, rfl⟩
        refine lv_iinc (v := x2) (lv' := [(1, .int x2), (0, .ref (zad h0 sz 0))]) hx hb dX3_init_172 hl (k := 1) rfl (by rw [ex2]; rfl) (by decide) rfl (fun ls hl => ?_)
        refine lv_goto (tgt := 153) hx hb dX3_init_175 (by decide) ?_
        have q1 : 41 + k + 1 = 41 + (k + 1) := by omega
        have q2 : 170 + 9 * k + 9 = 170 + 9 * (k + 1) := by omega
        have J := ih (k + 1) hk8 (by omega) x2 (z_nx ex ex2) ls (lv_sub hl [1, 0] rfl) H locs (by rw [z2, hz]; omega) hH hS
        rw [← q1, ← q2] at J
        exact J
  have K151 : ∀ ls : Array Slot, lv_has ls 2 [(0, .ref (zad h0 sz 0))] → ∀ (H : Heap) (locs : List Loc), H.size = sz + 41 → z_H (dC, dI) vwCl zf ca (zdL 8 12 0 0) (zad h0 sz) zMp H → va_S (fun q => q = h0 ∨ sz ≤ q) s.heap H locs → W p l e (headSpec wsX3_init ({ frames := 3, cells := 50, slots := 245, locals := 53 })).room s m ([.ref (zad h0 sz 0)] : List Value).toArray below meth c H locs (41) (170) (MQ below (z_Qv (fun H => H.size = sz + 50 ∧ zW dC dI ca (zad h0 sz) zMi H) (fun q => q = h0 ∨ sz ≤ q)) ([.ref (zad h0 sz 0)] : List Value).toArray s 50 245 (fun q => q = h0 ∨ sz ≤ q)) (F0 m 151 ls []) := by
    intro ls hl H locs hz hH hS
    refine lv_iconst (v := 0) hx hb dX3_init_151 (by decide) ?_
    refine lv_istore_n (lv' := [(1, .int 0), (0, .ref (zad h0 sz 0))]) hx hb dX3_init_152 rfl hl (by decide) rfl (fun ls hl => ?_)
    exact L151 7 0 (Nat.zero_le _) (by decide) 0 rfl ls (lv_sub hl [1, 0] rfl) H locs hz hH hS
  have L124 : ∀ (d k : Nat), k ≤ 12 → 12 - k < d → ∀ x : Int32, x = nI k → ∀ ls : Array Slot, lv_has ls 2 [(0, .ref (zad h0 sz 0)), (1, .int x)] → ∀ (H : Heap) (locs : List Loc), H.size = sz + (29 + k) → z_H (dC, dI) vwCl zf ca (zdL 8 k 0 0) (zad h0 sz) zMp H → va_S (fun q => q = h0 ∨ sz ≤ q) s.heap H locs → W p l e (headSpec wsX3_init ({ frames := 3, cells := 50, slots := 245, locals := 53 })).room s m ([.ref (zad h0 sz 0)] : List Value).toArray below meth c H locs (29 + k) (122 + 4 * k) (MQ below (z_Qv (fun H => H.size = sz + 50 ∧ zW dC dI ca (zad h0 sz) zMi H) (fun q => q = h0 ∨ sz ≤ q)) ([.ref (zad h0 sz 0)] : List Value).toArray s 50 245 (fun q => q = h0 ∨ sz ≤ q)) (F0 m 126 ls []) := by
    intro d
    induction d with
    | zero => intro k hk hd; exact absurd hd (by omega)
    | succ d ih =>
      intro k hk hd x ex ls hl H locs hz hH hS
      refine lv_iload_n hx hb dX3_init_126 rfl (lv_at hl 1 rfl) ?_
      refine lv_bipush (v := 12) hx hb dX3_init_127 (by decide) ?_
      refine lv_icmp_ge (tgt := 151) hx hb dX3_init_129 (by decide) (fun c1 => ?_) (fun c1 => ?_)
      · have hk8 : k = 12 := z_ge rfl ex hk (by decide) c1
        subst hk8
        exact K151 ls (lv_sub hl [0] rfl) H locs hz hH hS
      · have hk8 : k < 12 := z_lt rfl ex hk (by decide) c1
        have hs := (zdL_sub (kb := 8) (kf := k) (kw := 0) (ks := 0) (by omega) (by omega) (by omega) (by omega))
        have hkk : zk (40 + k) < 200 := by rw [zk_f hk8]; decide
        refine lv_aload_n hx hb dX3_init_132 rfl (lv_at hl 0 rfl) ?_
        refine z_gr (D := (dC, dI)) (cl := vwCl) (C := RX3) (T := TX3) (N := 15) (ci := 3) (i := 0) (j := 2) (k := 1) hx hb hts hinX3 hown hK hH rfl (by decide) rfl (by decide) rfl rfl (hts (.fieldLink RX3 19 "Steamfield$Land" "faces" "[LSteamfield$Face;") (by decide +kernel)) (fun _ h9 => h9) dX3_init_133 ?_
        refine lv_iload_n hx hb dX3_init_136 rfl (lv_at hl 1 rfl) ?_
        refine z_new (D := (dC, dI)) (cl := vwCl) (fl := zf) (ca := ca) (ad := zad h0 sz) (C := RX2) (T := TX2) (N := 4) (ci := 2) (i := 40 + k) hx hb hts hinX2 tyX2 tyX2_ok hown (hts (.classLink RX3 17 RX2) (by decide +kernel)) (hts (.instantiable RX2 4) (by decide +kernel)) (hts (.initialized RX2) (by decide +kernel)) hK hH hS hA rfl (by decide) (by rw [hz]; unfold zad zo; (repeat rw [if_neg (by omega)]); first | (rw [if_pos (by omega)]; omega) | omega) (by intro q; simp only [zdL]; (repeat rw [if_neg (by omega)])) (zMp_0 (by omega)) (z_born 2 tyX2 4 (by decide)) (by show 29 + k + 1 ≤ 50; omega) (by show 122 + 4 * k + 4 ≤ 245; omega) dX3_init_137 (fun H hH z1 o1 hS => ?_)
        have hz : H.size = sz + (29 + k + 1) := by omega
        have hs := hs.k 2 (i := 40 + k) hkk
        refine lv_dup hx hb dX3_init_140 rfl ?_
        refine z_cIN (D := (dC, dI)) (cl := vwCl) (tys := zt ca) (nw := zw_nest) (As := []) (rest := [.ref (zad h0 sz (40 + k)), .int x, .ref (zad h0 sz 2)]) ⟨hx, hb, hml, hown, hts⟩ (m_X2_init l dC dI ca (fun z => z = H) (zad h0 sz (40 + k))) ⟨va_cnB 0 hts gX3_init_X2_init_n67 rfl rfl rfl (hN (.methodLinkNest RX3 67 yX2_init "Steamfield") (by decide +kernel)) (hts (.initialized RX2) (by decide +kernel)) (by decide +kernel) ⟨Nat.le_of_ble_eq_true rfl, Nat.le_of_ble_eq_true rfl⟩, rfl, hts (.instanceMethod yX2_init) (by decide +kernel)⟩ rfl hK hN hX zw_nest_ok rfl hl.1 rfl (Nat.le_of_ble_eq_true rfl) dX3_init_141 ⟨by show 29 + k + 1 + 0 ≤ 50; omega, by show 122 + 4 * k + 4 + 0 ≤ 245; omega⟩ hS (fun _ h => h.elim) (fun H locs hB1 oq1 hz1 hS => ?_)
        rw [← hB1] at hH hz
        refine z_ast (t0 := 2) (D := (dC, dI)) (cl := vwCl) (tys := zt ca) (i := 2) (j := 40 + k) (kd := 102) (ci := 2) (r := (RX2, TX2, 4)) hx hb hK hH (hs.inj hl0 (by decide)) hS (Or.inr (zad_rng (i := 2) (by decide) (by decide)).1) (by simp only [zdr, zdk]; (repeat rw [if_neg (by omega)]); rfl) (by decide) (by decide) rfl (if_pos rfl) (by decide) rfl (show vp_in x 12 from zx ex hk8 (by decide)) dX3_init_144 (fun H locs hH z2 oq hS => ?_)
        rw [zx_n ex (by omega)] at hH
        have hH := hH.desc (zdL_f k)
        obtain ⟨x2, ex2⟩ : ∃ z : Int32, z = x + 1 := ⟨_, rfl⟩
        refine lv_iinc (v := x2) (lv' := [(1, .int x2), (0, .ref (zad h0 sz 0))]) hx hb dX3_init_145 hl (k := 1) rfl (by rw [ex2]; rfl) (by decide) rfl (fun ls hl => ?_)
        refine lv_goto (tgt := 126) hx hb dX3_init_148 (by decide) ?_
        have q1 : 29 + k + 1 = 29 + (k + 1) := by omega
        have q2 : 122 + 4 * k + 4 = 122 + 4 * (k + 1) := by omega
        have J := ih (k + 1) hk8 (by omega) x2 (z_nx ex ex2) ls (lv_sub hl [1, 0] rfl) H locs (by rw [z2, hz]; omega) hH hS
        rw [← q1, ← q2] at J
        exact J
  have K124 : ∀ ls : Array Slot, lv_has ls 2 [(0, .ref (zad h0 sz 0))] → ∀ (H : Heap) (locs : List Loc), H.size = sz + 29 → z_H (dC, dI) vwCl zf ca (zdL 8 0 0 0) (zad h0 sz) zMp H → va_S (fun q => q = h0 ∨ sz ≤ q) s.heap H locs → W p l e (headSpec wsX3_init ({ frames := 3, cells := 50, slots := 245, locals := 53 })).room s m ([.ref (zad h0 sz 0)] : List Value).toArray below meth c H locs (29) (122) (MQ below (z_Qv (fun H => H.size = sz + 50 ∧ zW dC dI ca (zad h0 sz) zMi H) (fun q => q = h0 ∨ sz ≤ q)) ([.ref (zad h0 sz 0)] : List Value).toArray s 50 245 (fun q => q = h0 ∨ sz ≤ q)) (F0 m 124 ls []) := by
    intro ls hl H locs hz hH hS
    refine lv_iconst (v := 0) hx hb dX3_init_124 (by decide) ?_
    refine lv_istore_n (lv' := [(1, .int 0), (0, .ref (zad h0 sz 0))]) hx hb dX3_init_125 rfl hl (by decide) rfl (fun ls hl => ?_)
    exact L124 13 0 (Nat.zero_le _) (by decide) 0 rfl ls (lv_sub hl [1, 0] rfl) H locs hz hH hS
  have L97 : ∀ (d k : Nat), k ≤ 8 → 8 - k < d → ∀ x : Int32, x = nI k → ∀ ls : Array Slot, lv_has ls 2 [(0, .ref (zad h0 sz 0)), (1, .int x)] → ∀ (H : Heap) (locs : List Loc), H.size = sz + (13 + 2 * k) → z_H (dC, dI) vwCl zf ca (zdL k 0 0 0) (zad h0 sz) zMp H → va_S (fun q => q = h0 ∨ sz ≤ q) s.heap H locs → W p l e (headSpec wsX3_init ({ frames := 3, cells := 50, slots := 245, locals := 53 })).room s m ([.ref (zad h0 sz 0)] : List Value).toArray below meth c H locs (13 + 2 * k) (66 + 7 * k) (MQ below (z_Qv (fun H => H.size = sz + 50 ∧ zW dC dI ca (zad h0 sz) zMi H) (fun q => q = h0 ∨ sz ≤ q)) ([.ref (zad h0 sz 0)] : List Value).toArray s 50 245 (fun q => q = h0 ∨ sz ≤ q)) (F0 m 99 ls []) := by
    intro d
    induction d with
    | zero => intro k hk hd; exact absurd hd (by omega)
    | succ d ih =>
      intro k hk hd x ex ls hl H locs hz hH hS
      refine lv_iload_n hx hb dX3_init_99 rfl (lv_at hl 1 rfl) ?_
      refine lv_bipush (v := 8) hx hb dX3_init_100 (by decide) ?_
      refine lv_icmp_ge (tgt := 124) hx hb dX3_init_102 (by decide) (fun c1 => ?_) (fun c1 => ?_)
      · have hk8 : k = 8 := z_ge rfl ex hk (by decide) c1
        subst hk8
        exact K124 ls (lv_sub hl [0] rfl) H locs hz hH hS
      · have hk8 : k < 8 := z_lt rfl ex hk (by decide) c1
        have hs := (zdL_sub (kb := k) (kf := 0) (kw := 0) (ks := 0) (by omega) (by omega) (by omega) (by omega))
        have hkk : zk (20 + k) < 200 := by rw [zk_b hk8]; decide
        refine lv_aload_n hx hb dX3_init_105 rfl (lv_at hl 0 rfl) ?_
        refine z_gr (D := (dC, dI)) (cl := vwCl) (C := RX3) (T := TX3) (N := 15) (ci := 3) (i := 0) (j := 1) (k := 0) hx hb hts hinX3 hown hK hH rfl (by decide) rfl (by decide) rfl rfl (hts (.fieldLink RX3 11 "Steamfield$Land" "blocks" "[LSteamfield$Block;") (by decide +kernel)) (fun _ h9 => h9) dX3_init_106 ?_
        refine lv_iload_n hx hb dX3_init_109 rfl (lv_at hl 1 rfl) ?_
        refine z_new (D := (dC, dI)) (cl := vwCl) (fl := zf) (ca := ca) (ad := zad h0 sz) (C := RX0) (T := TX0) (N := 3) (ci := 0) (i := 20 + k) hx hb hts hinX0 tyX0 tyX0_ok hown (hts (.classLink RX3 9 RX0) (by decide +kernel)) (hts (.instantiable RX0 3) (by decide +kernel)) (hts (.initialized RX0) (by decide +kernel)) hK hH hS hA rfl (by decide) (by rw [hz]; unfold zad zo; (repeat rw [if_neg (by omega)]); first | (rw [if_pos (by omega)]; omega) | omega) (by intro q; simp only [zdL]; (repeat rw [if_neg (by omega)])) (zMp_0 (by omega)) (z_born 0 tyX0 3 (by decide)) (by show 13 + 2 * k + 1 ≤ 50; omega) (by show 66 + 7 * k + 3 ≤ 245; omega) dX3_init_110 (fun H hH z1 o1 hS => ?_)
        have hz : H.size = sz + (13 + 2 * k + 1) := by omega
        have hs := hs.k 0 (i := 20 + k) hkk
        refine lv_dup hx hb dX3_init_113 rfl ?_
        refine z_cIN (D := (dC, dI)) (cl := vwCl) (tys := zt ca) (nw := zw_nest) (As := []) (rest := [.ref (zad h0 sz (20 + k)), .int x, .ref (zad h0 sz 1)]) ⟨hx, hb, hml, hown, hts⟩ (m_X0_init l dC dI ca (zdk (zdL k 0 0 0) (20 + k) 0) zMp h0 sz (sz + (13 + 2 * k + 1)) k hk8 hl0 hs (if_pos rfl) (by unfold zad zo; (repeat rw [if_neg (by omega)]); rw [if_pos (by omega)]; omega) (by intro q; simp only [zdk, zdL]; (repeat rw [if_neg (by omega)])) (zMp_0 (by omega))) ⟨va_cnB 0 hts gX3_init_X0_init_n66 rfl rfl rfl (hN (.methodLinkNest RX3 66 yX0_init "Steamfield") (by decide +kernel)) (hts (.initialized RX0) (by decide +kernel)) (by decide +kernel) ⟨Nat.le_of_ble_eq_true rfl, Nat.le_of_ble_eq_true rfl⟩, rfl, hts (.instanceMethod yX0_init) (by decide +kernel)⟩ ⟨hz, hH⟩ hK hN hX zw_nest_ok rfl hl.1 rfl (Nat.le_of_ble_eq_true rfl) dX3_init_114 ⟨by show 13 + 2 * k + 1 + 1 ≤ 50; omega, by show 66 + 7 * k + 3 + 4 ≤ 245; omega⟩ hS (by rintro q (h9 | h9); exact Or.inr (by rw [h9]; exact (zad_rng hkk (by omega)).1); exact Or.inr (by omega)) (fun H locs hB1 oq1 hz1 hS => ?_)
        obtain ⟨hz, hH⟩ := hB1
        have hs := (hs.k 6 (i := 30 + k) (by rw [zk_w hk8]; decide)).r (20 + k) 0 (30 + k)
        refine z_ast (t0 := 1) (D := (dC, dI)) (cl := vwCl) (tys := zt ca) (i := 1) (j := 20 + k) (kd := 101) (ci := 0) (r := (RX0, TX0, 3)) hx hb hK hH (hs.inj hl0 (by decide)) hS (Or.inr (zad_rng (i := 1) (by decide) (by decide)).1) (by simp only [zdr, zdk]; (repeat rw [if_neg (by omega)]); rfl) (by decide) (by decide) rfl ((if_neg (by omega)).trans (if_pos rfl)) (by decide) rfl (show vp_in x 8 from zx ex hk8 (by decide)) dX3_init_117 (fun H locs hH z2 oq hS => ?_)
        rw [zx_n ex (by omega)] at hH
        have hH := hH.desc (zdL_b k)
        obtain ⟨x2, ex2⟩ : ∃ z : Int32, z = x + 1 := ⟨_, rfl⟩
        refine lv_iinc (v := x2) (lv' := [(1, .int x2), (0, .ref (zad h0 sz 0))]) hx hb dX3_init_118 hl (k := 1) rfl (by rw [ex2]; rfl) (by decide) rfl (fun ls hl => ?_)
        refine lv_goto (tgt := 99) hx hb dX3_init_121 (by decide) ?_
        have q1 : 13 + 2 * k + 1 + 1 = 13 + 2 * (k + 1) := by omega
        have q2 : 66 + 7 * k + 3 + 4 = 66 + 7 * (k + 1) := by omega
        have J := ih (k + 1) hk8 (by omega) x2 (z_nx ex ex2) ls (lv_sub hl [1, 0] rfl) H locs (by rw [z2, hz]; omega) hH hS
        rw [← q1, ← q2] at J
        exact J
  have K97 : ∀ ls : Array Slot, lv_has ls 2 [(0, .ref (zad h0 sz 0))] → ∀ (H : Heap) (locs : List Loc), H.size = sz + 13 → z_H (dC, dI) vwCl zf ca (zdL 0 0 0 0) (zad h0 sz) zMp H → va_S (fun q => q = h0 ∨ sz ≤ q) s.heap H locs → W p l e (headSpec wsX3_init ({ frames := 3, cells := 50, slots := 245, locals := 53 })).room s m ([.ref (zad h0 sz 0)] : List Value).toArray below meth c H locs (13) (66) (MQ below (z_Qv (fun H => H.size = sz + 50 ∧ zW dC dI ca (zad h0 sz) zMi H) (fun q => q = h0 ∨ sz ≤ q)) ([.ref (zad h0 sz 0)] : List Value).toArray s 50 245 (fun q => q = h0 ∨ sz ≤ q)) (F0 m 97 ls []) := by
    intro ls hl H locs hz hH hS
    refine lv_iconst (v := 0) hx hb dX3_init_97 (by decide) ?_
    refine lv_istore_n (lv' := [(1, .int 0), (0, .ref (zad h0 sz 0))]) hx hb dX3_init_98 rfl hl (by decide) rfl (fun ls hl => ?_)
    exact L97 9 0 (Nat.zero_le _) (by decide) 0 rfl ls (lv_sub hl [1, 0] rfl) H locs hz hH hS
  have hl := lv_entry ([.ref (zad h0 sz 0)]) (n := 2) (Nat.le_of_ble_eq_true rfl)
  rw [lg_entry_eq]
  generalize (lg_sl ([.ref (zad h0 sz 0)]) ++ List.replicate (2 - (lg_sl ([.ref (zad h0 sz 0)])).length) Slot.unset).toArray = ls at hl ⊢
  have hl : lv_has ls 2 [(0, .ref ((zad h0 sz 0)))] := hl
  refine lv_aload_n hx hb dX3_init_0 rfl (lv_at hl 0 rfl) ?_
  refine W.objInit hx hb hown (hts (.methodLink RX3 3 objectInit) (by decide +kernel)) (hts (.instanceMethod objectInit) (by decide +kernel)) (hts _ (List.mem_of_getElem? (i := 3) rfl)) rfl (by rw [hml]; exact hl.1) rfl dX3_init_1 (Nat.le_of_ble_eq_true rfl) (Nat.le_of_ble_eq_true rfl) ?_
  refine W.eq (g2 := F0 m 4 ls []) rfl ?_
  have hs := zde_sub.k 3 (i := 0) (by decide)
  refine lv_aload_n hx hb dX3_init_4 rfl (lv_at hl 0 rfl) ?_
  refine lv_bipush (v := 8) hx hb dX3_init_5 (by decide) ?_
  refine z_newq (D := (dC, dI)) (cl := vwCl) (fl := zf) (ca := ca) (ad := zad h0 sz) (tys := zt ca) (C := RX0) (i := 1) (kd := 101) (t0 := 1) hx hb hown (hts (.classLink RX3 9 RX0) (by decide +kernel)) hX.1 hK rfl hH hS hA (by decide) (by rw [hz]; rfl) (fun _ => rfl) rfl (by decide) (by decide) (by decide) (Nat.le_of_ble_eq_true rfl) (Nat.le_of_ble_eq_true rfl) dX3_init_7 (fun H hH z1 o1 hS => ?_)
  have hz : H.size = sz + 1 := by rw [z1, hz]
  have hs := hs.k 101 (i := 1) (by decide)
  refine z_prF (D := (dC, dI)) (cl := vwCl) (fl := zf) (ca := ca) (ad := zad h0 sz) (C := RX3) (T := TX3) (N := 15) (ci := 3) (i := 0) (k := 0) (j := 1) (ty := tyX3 0) hx hb hts hinX3 tyX3 tyX3_ok nmX3 hown hK hH (hs.inj hl0 (by decide)) hS (Or.inl rfl) rfl (by decide) rfl (by decide) rfl (hts (.fieldLink RX3 11 "Steamfield$Land" "blocks" "[LSteamfield$Block;") (by decide +kernel)) (fun _ h9 => h9) rfl hin2 rfl (tyX3_ok 0 (by decide)) rfl rfl dX3_init_10 (fun H locs hH z2 oq hS => ?_)
  have hz : H.size = sz + 1 := by omega
  have hs := hs.r 0 0 1
  refine lv_aload_n hx hb dX3_init_13 rfl (lv_at hl 0 rfl) ?_
  refine lv_bipush (v := 12) hx hb dX3_init_14 (by decide) ?_
  refine z_newq (D := (dC, dI)) (cl := vwCl) (fl := zf) (ca := ca) (ad := zad h0 sz) (tys := zt ca) (C := RX2) (i := 2) (kd := 102) (t0 := 2) hx hb hown (hts (.classLink RX3 17 RX2) (by decide +kernel)) hX.2.1 hK rfl hH hS hA (by decide) (by rw [hz]; rfl) (fun _ => rfl) rfl (by decide) (by decide) (by decide) (Nat.le_of_ble_eq_true rfl) (Nat.le_of_ble_eq_true rfl) dX3_init_16 (fun H hH z1 o1 hS => ?_)
  have hz : H.size = sz + 2 := by rw [z1, hz]
  have hs := hs.k 102 (i := 2) (by decide)
  refine z_prF (D := (dC, dI)) (cl := vwCl) (fl := zf) (ca := ca) (ad := zad h0 sz) (C := RX3) (T := TX3) (N := 15) (ci := 3) (i := 0) (k := 1) (j := 2) (ty := tyX3 1) hx hb hts hinX3 tyX3 tyX3_ok nmX3 hown hK hH (hs.inj hl0 (by decide)) hS (Or.inl rfl) rfl (by decide) rfl (by decide) rfl (hts (.fieldLink RX3 19 "Steamfield$Land" "faces" "[LSteamfield$Face;") (by decide +kernel)) (fun _ h9 => h9) rfl hin2 rfl (tyX3_ok 1 (by decide)) rfl rfl dX3_init_19 (fun H locs hH z2 oq hS => ?_)
  have hz : H.size = sz + 2 := by omega
  have hs := hs.r 0 1 2
  refine lv_aload_n hx hb dX3_init_22 rfl (lv_at hl 0 rfl) ?_
  refine lv_bipush (v := 6) hx hb dX3_init_23 (by decide) ?_
  refine z_newq (D := (dC, dI)) (cl := vwCl) (fl := zf) (ca := ca) (ad := zad h0 sz) (tys := zt ca) (C := RX7) (i := 3) (kd := 103) (t0 := 3) hx hb hown (hts (.classLink RX3 23 RX7) (by decide +kernel)) hX.2.2.1 hK rfl hH hS hA (by decide) (by rw [hz]; rfl) (fun _ => rfl) rfl (by decide) (by decide) (by decide) (Nat.le_of_ble_eq_true rfl) (Nat.le_of_ble_eq_true rfl) dX3_init_25 (fun H hH z1 o1 hS => ?_)
  have hz : H.size = sz + 3 := by rw [z1, hz]
  have hs := hs.k 103 (i := 3) (by decide)
  refine z_prF (D := (dC, dI)) (cl := vwCl) (fl := zf) (ca := ca) (ad := zad h0 sz) (C := RX3) (T := TX3) (N := 15) (ci := 3) (i := 0) (k := 2) (j := 3) (ty := tyX3 2) hx hb hts hinX3 tyX3 tyX3_ok nmX3 hown hK hH (hs.inj hl0 (by decide)) hS (Or.inl rfl) rfl (by decide) rfl (by decide) rfl (hts (.fieldLink RX3 25 "Steamfield$Land" "wells" "[LSteamfield$Well;") (by decide +kernel)) (fun _ h9 => h9) rfl hin2 rfl (tyX3_ok 2 (by decide)) rfl rfl dX3_init_28 (fun H locs hH z2 oq hS => ?_)
  have hz : H.size = sz + 3 := by omega
  have hs := hs.r 0 2 3
  refine lv_aload_n hx hb dX3_init_31 rfl (lv_at hl 0 rfl) ?_
  refine lv_iconst (v := 3) hx hb dX3_init_32 (by decide) ?_
  refine z_newq (D := (dC, dI)) (cl := vwCl) (fl := zf) (ca := ca) (ad := zad h0 sz) (tys := zt ca) (C := RX5) (i := 4) (kd := 104) (t0 := 4) hx hb hown (hts (.classLink RX3 29 RX5) (by decide +kernel)) hX.2.2.2 hK rfl hH hS hA (by decide) (by rw [hz]; rfl) (fun _ => rfl) rfl (by decide) (by decide) (by decide) (Nat.le_of_ble_eq_true rfl) (Nat.le_of_ble_eq_true rfl) dX3_init_33 (fun H hH z1 o1 hS => ?_)
  have hz : H.size = sz + 4 := by rw [z1, hz]
  have hs := hs.k 104 (i := 4) (by decide)
  refine z_prF (D := (dC, dI)) (cl := vwCl) (fl := zf) (ca := ca) (ad := zad h0 sz) (C := RX3) (T := TX3) (N := 15) (ci := 3) (i := 0) (k := 3) (j := 4) (ty := tyX3 3) hx hb hts hinX3 tyX3 tyX3_ok nmX3 hown hK hH (hs.inj hl0 (by decide)) hS (Or.inl rfl) rfl (by decide) rfl (by decide) rfl (hts (.fieldLink RX3 31 "Steamfield$Land" "springs" "[LSteamfield$Spring;") (by decide +kernel)) (fun _ h9 => h9) rfl hin2 rfl (tyX3_ok 3 (by decide)) rfl rfl dX3_init_36 (fun H locs hH z2 oq hS => ?_)
  have hz : H.size = sz + 4 := by omega
  have hs := hs.r 0 3 4
  refine lv_aload_n hx hb dX3_init_39 rfl (lv_at hl 0 rfl) ?_
  refine z_new (D := (dC, dI)) (cl := vwCl) (fl := zf) (ca := ca) (ad := zad h0 sz) (C := RX6) (T := TX6) (N := 4) (ci := 6) (i := 5) hx hb hts hinX6 tyX6 tyX6_ok hown (hts (.classLink RX3 35 RX6) (by decide +kernel)) (hts (.instantiable RX6 4) (by decide +kernel)) (hts (.initialized RX6) (by decide +kernel)) hK hH hS hA rfl (by decide) (by rw [hz]; rfl) (fun _ => rfl) (fun _ => rfl) (z_born 6 tyX6 4 (by decide)) (Nat.le_of_ble_eq_true rfl) (Nat.le_of_ble_eq_true rfl) dX3_init_40 (fun H hH z1 o1 hS => ?_)
  have hz : H.size = sz + 5 := by omega
  have hs := hs.k 6 (i := 5) (by decide)
  refine lv_dup hx hb dX3_init_43 rfl ?_
  refine z_cIN (D := (dC, dI)) (cl := vwCl) (tys := zt ca) (nw := zw_nest) (As := []) (rest := [.ref (zad h0 sz 5), .ref (zad h0 sz 0)]) ⟨hx, hb, hml, hown, hts⟩ (m_X6_init l dC dI ca (fun z => z = H) (zad h0 sz 5)) ⟨va_cnB 0 hts gX3_init_X6_init_n37 rfl rfl rfl (hN (.methodLinkNest RX3 37 yX6_init "Steamfield") (by decide +kernel)) (hts (.initialized RX6) (by decide +kernel)) (by decide +kernel) ⟨Nat.le_of_ble_eq_true rfl, Nat.le_of_ble_eq_true rfl⟩, rfl, hts (.instanceMethod yX6_init) (by decide +kernel)⟩ rfl hK hN hX zw_nest_ok rfl hl.1 rfl (Nat.le_of_ble_eq_true rfl) dX3_init_44 ⟨Nat.le_of_ble_eq_true rfl, Nat.le_of_ble_eq_true rfl⟩ hS (fun _ h => h.elim) (fun H locs hB1 oq1 hz1 hS => ?_)
  rw [← hB1] at hH hz
  refine z_prF (D := (dC, dI)) (cl := vwCl) (fl := zf) (ca := ca) (ad := zad h0 sz) (C := RX3) (T := TX3) (N := 15) (ci := 3) (i := 0) (k := 4) (j := 5) (ty := tyX3 4) hx hb hts hinX3 tyX3 tyX3_ok nmX3 hown hK hH (hs.inj hl0 (by decide)) hS (Or.inl rfl) rfl (by decide) rfl (by decide) rfl (hts (.fieldLink RX3 38 "Steamfield$Land" "pond" "LSteamfield$Water;") (by decide +kernel)) (fun _ h9 => h9) rfl hin2 rfl (tyX3_ok 4 (by decide)) rfl rfl dX3_init_47 (fun H locs hH z2 oq hS => ?_)
  have hz : H.size = sz + 5 := by omega
  have hs := hs.r 0 4 5
  refine lv_aload_n hx hb dX3_init_50 rfl (lv_at hl 0 rfl) ?_
  refine z_new (D := (dC, dI)) (cl := vwCl) (fl := zf) (ca := ca) (ad := zad h0 sz) (C := RX4) (T := TX4) (N := 6) (ci := 4) (i := 6) hx hb hts hinX4 tyX4 tyX4_ok hown (hts (.classLink RX3 42 RX4) (by decide +kernel)) (hts (.instantiable RX4 6) (by decide +kernel)) (hts (.initialized RX4) (by decide +kernel)) hK hH hS hA rfl (by decide) (by rw [hz]; rfl) (fun _ => rfl) (fun _ => rfl) (z_born 4 tyX4 6 (by decide)) (Nat.le_of_ble_eq_true rfl) (Nat.le_of_ble_eq_true rfl) dX3_init_51 (fun H hH z1 o1 hS => ?_)
  have hz : H.size = sz + 6 := by omega
  have hs := hs.k 4 (i := 6) (by decide)
  refine lv_dup hx hb dX3_init_54 rfl ?_
  refine z_cIN (D := (dC, dI)) (cl := vwCl) (tys := zt ca) (nw := zw_nest) (As := []) (rest := [.ref (zad h0 sz 6), .ref (zad h0 sz 0)]) ⟨hx, hb, hml, hown, hts⟩ (m_X4_init l dC dI ca (zdk (zdr (zdk (zdr (zdk (zdr (zdk (zdr (zdk (zdr (zdk (zdk zde 0 3) 1 101) 0 0 1) 2 102) 0 1 2) 3 103) 0 2 3) 4 104) 0 3 4) 5 6) 0 4 5) 6 4) zM0 (zad h0 sz) (zI_zad hs hl0) (sz + 6) rfl) ⟨va_cnB 0 hts gX3_init_X4_init_n44 rfl rfl rfl (hN (.methodLinkNest RX3 44 yX4_init "Steamfield") (by decide +kernel)) (hts (.initialized RX4) (by decide +kernel)) (by decide +kernel) ⟨Nat.le_of_ble_eq_true rfl, Nat.le_of_ble_eq_true rfl⟩, rfl, hts (.instanceMethod yX4_init) (by decide +kernel)⟩ ⟨hz, hH⟩ hK hN hX zw_nest_ok rfl hl.1 rfl (Nat.le_of_ble_eq_true rfl) dX3_init_55 ⟨Nat.le_of_ble_eq_true rfl, Nat.le_of_ble_eq_true rfl⟩ hS (zA_zad hs) (fun H locs hB1 oq1 hz1 hS => ?_)
  obtain ⟨hz, hH⟩ := hB1
  refine z_prF (D := (dC, dI)) (cl := vwCl) (fl := zf) (ca := ca) (ad := zad h0 sz) (C := RX3) (T := TX3) (N := 15) (ci := 3) (i := 0) (k := 5) (j := 6) (ty := tyX3 5) hx hb hts hinX3 tyX3 tyX3_ok nmX3 hown hK hH (hs.inj hl0 (by decide)) hS (Or.inl rfl) rfl (by decide) rfl (by decide) rfl (hts (.fieldLink RX3 45 "Steamfield$Land" "plant" "LSteamfield$Plant;") (by decide +kernel)) (fun _ h9 => h9) rfl hin2 rfl (tyX3_ok 5 (by decide)) rfl rfl dX3_init_58 (fun H locs hH z2 oq hS => ?_)
  have hz : H.size = sz + 6 := by omega
  have hs := hs.r 0 5 6
  refine lv_aload_n hx hb dX3_init_61 rfl (lv_at hl 0 rfl) ?_
  refine z_new (D := (dC, dI)) (cl := vwCl) (fl := zf) (ca := ca) (ad := zad h0 sz) (C := RX1) (T := TX1) (N := 5) (ci := 1) (i := 7) hx hb hts hinX1 tyX1 tyX1_ok hown (hts (.classLink RX3 49 RX1) (by decide +kernel)) (hts (.instantiable RX1 5) (by decide +kernel)) (hts (.initialized RX1) (by decide +kernel)) hK hH hS hA rfl (by decide) (by rw [hz]; rfl) (fun _ => rfl) (fun _ => rfl) (z_born 1 tyX1 5 (by decide)) (Nat.le_of_ble_eq_true rfl) (Nat.le_of_ble_eq_true rfl) dX3_init_62 (fun H hH z1 o1 hS => ?_)
  have hz : H.size = sz + 7 := by omega
  have hs := hs.k 1 (i := 7) (by decide)
  refine lv_dup hx hb dX3_init_65 rfl ?_
  refine z_cIN (D := (dC, dI)) (cl := vwCl) (tys := zt ca) (nw := zw_nest) (As := []) (rest := [.ref (zad h0 sz 7), .ref (zad h0 sz 0)]) ⟨hx, hb, hml, hown, hts⟩ (m_X1_init l dC dI ca (zdk (zdr (zdk (zdr (zdk (zdr (zdk (zdr (zdk (zdr (zdk (zdr (zdk (zdk zde 0 3) 1 101) 0 0 1) 2 102) 0 1 2) 3 103) 0 2 3) 4 104) 0 3 4) 5 6) 0 4 5) 6 4) 0 5 6) 7 1) zMp h0 sz (sz + 7) hl0 hs rfl rfl rfl rfl (fun _ => rfl) (fun _ => rfl) (fun _ => rfl) (fun _ => rfl) (fun _ => rfl) (fun _ => rfl)) ⟨va_cnB 0 hts gX3_init_X1_init_n51 rfl rfl rfl (hN (.methodLinkNest RX3 51 yX1_init "Steamfield") (by decide +kernel)) (hts (.initialized RX1) (by decide +kernel)) (by decide +kernel) ⟨Nat.le_of_ble_eq_true rfl, Nat.le_of_ble_eq_true rfl⟩, rfl, hts (.instanceMethod yX1_init) (by decide +kernel)⟩ ⟨hz, hH⟩ hK hN hX zw_nest_ok rfl hl.1 rfl (Nat.le_of_ble_eq_true rfl) dX3_init_66 ⟨Nat.le_of_ble_eq_true rfl, Nat.le_of_ble_eq_true rfl⟩ hS (by rintro q (h9 | h9); exact Or.inr (by rw [h9]; exact (zad_rng (i := 7) (by decide) (by decide)).1); exact Or.inr (by omega)) (fun H locs hB1 oq1 hz1 hS => ?_)
  obtain ⟨hz, hH⟩ := hB1
  have hz : H.size = sz + 10 := hz
  have hs := (hs.k 6 (i := 11) (by decide)).r 7 0 11
  have hs := (hs.k 6 (i := 12) (by decide)).r 7 1 12
  have hs := (hs.k 6 (i := 13) (by decide)).r 7 2 13
  refine z_prF (D := (dC, dI)) (cl := vwCl) (fl := zf) (ca := ca) (ad := zad h0 sz) (C := RX3) (T := TX3) (N := 15) (ci := 3) (i := 0) (k := 6) (j := 7) (ty := tyX3 6) hx hb hts hinX3 tyX3 tyX3_ok nmX3 hown hK hH (hs.inj hl0 (by decide)) hS (Or.inl rfl) rfl (by decide) rfl (by decide) rfl (hts (.fieldLink RX3 52 "Steamfield$Land" "books" "LSteamfield$Books;") (by decide +kernel)) (fun _ h9 => h9) rfl hin2 rfl (tyX3_ok 6 (by decide)) rfl rfl dX3_init_69 (fun H locs hH z2 oq hS => ?_)
  have hz : H.size = sz + 10 := by omega
  have hs := hs.r 0 6 7
  refine lv_aload_n hx hb dX3_init_72 rfl (lv_at hl 0 rfl) ?_
  refine lv_iconst (v := 2) hx hb dX3_init_73 (by decide) ?_
  refine z_newi (D := (dC, dI)) (cl := vwCl) (fl := zf) (ca := ca) (ad := zad h0 sz) (tys := zt ca) (i := 8) (t0 := 0) hx hb (hts (.arrayClass .int) (by decide +kernel)) hK rfl hH hS hA (by rw [hz]; rfl) (fun _ => rfl) rfl (by decide) (by decide) (by decide) (Nat.le_of_ble_eq_true rfl) (Nat.le_of_ble_eq_true rfl) dX3_init_74 (fun H hH z1 o1 hS => ?_)
  have hz : H.size = sz + 11 := by rw [z1, hz]
  have hs := hs.k 100 (i := 8) (by decide)
  refine z_prF (D := (dC, dI)) (cl := vwCl) (fl := zf) (ca := ca) (ad := zad h0 sz) (C := RX3) (T := TX3) (N := 15) (ci := 3) (i := 0) (k := 7) (j := 8) (ty := tyX3 7) hx hb hts hinX3 tyX3 tyX3_ok nmX3 hown hK hH (hs.inj hl0 (by decide)) hS (Or.inl rfl) rfl (by decide) rfl (by decide) rfl (hts (.fieldLink RX3 56 "Steamfield$Land" "coins" "[I") (by decide +kernel)) (fun _ h9 => h9) rfl hin2 rfl (tyX3_ok 7 (by decide)) rfl rfl dX3_init_76 (fun H locs hH z2 oq hS => ?_)
  have hz : H.size = sz + 11 := by omega
  have hs := hs.r 0 7 8
  refine lv_aload_n hx hb dX3_init_79 rfl (lv_at hl 0 rfl) ?_
  refine lv_iconst (v := 4) hx hb dX3_init_80 (by decide) ?_
  refine z_newi (D := (dC, dI)) (cl := vwCl) (fl := zf) (ca := ca) (ad := zad h0 sz) (tys := zt ca) (i := 9) (t0 := 0) hx hb (hts (.arrayClass .int) (by decide +kernel)) hK rfl hH hS hA (by rw [hz]; rfl) (fun _ => rfl) rfl (by decide) (by decide) (by decide) (Nat.le_of_ble_eq_true rfl) (Nat.le_of_ble_eq_true rfl) dX3_init_81 (fun H hH z1 o1 hS => ?_)
  have hz : H.size = sz + 12 := by rw [z1, hz]
  have hs := hs.k 100 (i := 9) (by decide)
  refine z_prF (D := (dC, dI)) (cl := vwCl) (fl := zf) (ca := ca) (ad := zad h0 sz) (C := RX3) (T := TX3) (N := 15) (ci := 3) (i := 0) (k := 8) (j := 9) (ty := tyX3 8) hx hb hts hinX3 tyX3 tyX3_ok nmX3 hown hK hH (hs.inj hl0 (by decide)) hS (Or.inl rfl) rfl (by decide) rfl (by decide) rfl (hts (.fieldLink RX3 60 "Steamfield$Land" "shocks" "[I") (by decide +kernel)) (fun _ h9 => h9) rfl hin2 rfl (tyX3_ok 8 (by decide)) rfl rfl dX3_init_83 (fun H locs hH z2 oq hS => ?_)
  have hz : H.size = sz + 12 := by omega
  have hs := hs.r 0 8 9
  refine lv_aload_n hx hb dX3_init_86 rfl (lv_at hl 0 rfl) ?_
  refine z_new (D := (dC, dI)) (cl := vwCl) (fl := zf) (ca := ca) (ad := zad h0 sz) (C := RX6) (T := TX6) (N := 4) (ci := 6) (i := 10) hx hb hts hinX6 tyX6 tyX6_ok hown (hts (.classLink RX3 35 RX6) (by decide +kernel)) (hts (.instantiable RX6 4) (by decide +kernel)) (hts (.initialized RX6) (by decide +kernel)) hK hH hS hA rfl (by decide) (by rw [hz]; rfl) (fun _ => rfl) (fun _ => rfl) (z_born 6 tyX6 4 (by decide)) (Nat.le_of_ble_eq_true rfl) (Nat.le_of_ble_eq_true rfl) dX3_init_87 (fun H hH z1 o1 hS => ?_)
  have hz : H.size = sz + 13 := by omega
  have hs := hs.k 6 (i := 10) (by decide)
  refine lv_dup hx hb dX3_init_90 rfl ?_
  refine z_cIN (D := (dC, dI)) (cl := vwCl) (tys := zt ca) (nw := zw_nest) (As := []) (rest := [.ref (zad h0 sz 10), .ref (zad h0 sz 0)]) ⟨hx, hb, hml, hown, hts⟩ (m_X6_init l dC dI ca (fun z => z = H) (zad h0 sz 10)) ⟨va_cnB 0 hts gX3_init_X6_init_n37 rfl rfl rfl (hN (.methodLinkNest RX3 37 yX6_init "Steamfield") (by decide +kernel)) (hts (.initialized RX6) (by decide +kernel)) (by decide +kernel) ⟨Nat.le_of_ble_eq_true rfl, Nat.le_of_ble_eq_true rfl⟩, rfl, hts (.instanceMethod yX6_init) (by decide +kernel)⟩ rfl hK hN hX zw_nest_ok rfl hl.1 rfl (Nat.le_of_ble_eq_true rfl) dX3_init_91 ⟨Nat.le_of_ble_eq_true rfl, Nat.le_of_ble_eq_true rfl⟩ hS (fun _ h => h.elim) (fun H locs hB1 oq1 hz1 hS => ?_)
  rw [← hB1] at hH hz
  refine z_prF (D := (dC, dI)) (cl := vwCl) (fl := zf) (ca := ca) (ad := zad h0 sz) (C := RX3) (T := TX3) (N := 15) (ci := 3) (i := 0) (k := 9) (j := 10) (ty := tyX3 9) hx hb hts hinX3 tyX3 tyX3_ok nmX3 hown hK hH (hs.inj hl0 (by decide)) hS (Or.inl rfl) rfl (by decide) rfl (by decide) rfl (hts (.fieldLink RX3 63 "Steamfield$Land" "load" "LSteamfield$Water;") (by decide +kernel)) (fun _ h9 => h9) rfl hin2 rfl (tyX3_ok 9 (by decide)) rfl rfl dX3_init_94 (fun H locs hH z2 oq hS => ?_)
  have hz : H.size = sz + 13 := by omega
  have hs := hs.r 0 9 10
  have hH := hH.desc zdL_a
  exact K97 ls (lv_sub hl [0] rfl) H locs hz hH hS
