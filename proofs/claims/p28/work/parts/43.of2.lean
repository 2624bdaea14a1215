/-! ===== the law's rows, and how it makes a field ===== -/
section ZLAW
variable {p : Program} {l : Launch} {e : Env} {R : Room} {s : State} {m : MethodId} {args : Array Value} {below : List Frame} {meth : Method} {c : Code} {H : Heap} {locs : List Loc} {cells slots : Nat} {Q : State → Prop}
variable {cc : ByteArray} {pc nL : Nat} {ls : Array Slot} {rest st0 : List Value} {A0 A1 : Nat → Prop}
variable {y : MethodName} {bytes : ByteArray} {maxL n index : Nat} {ret : Option FieldType} {ws Ts : List Cond} {rm : Room} {own : String} {b L : Nat} {xs : Nat → Int32} {As : List Value} {B B' : Heap → Prop}
theorem z_cXp {P : Int32 → Prop} (S : CallFix p m c cc nL s args Ts own) (hM : Met l y ws rm (z_Px As b L xs B) (z_Qp P B' A1) 0 0 A1) (cw : CallB R s args own index y bytes maxL ret ws rm 0 0 n ∧ (Cond.static y).before args s = true)
    (hX : va_X b L xs s s.heap) (hbl : b < s.heap.size) (hbA : ¬ A0 b) (hB : B H) (hn : As.length = n) (hsize : ls.size = nL) (hst : st0 = As.reverse ++ rest) (hW : (rest.map fun v => v.category).sum ≤ 8) (hdg : decode cc pc = .ok (.invokestatic index, 3)) (hf : cells ≤ R.cells ∧ slots ≤ R.slots) (hS : va_S A0 s.heap H locs) (hA : ∀ q, A1 q → A0 q)
    (kk : ∀ (r : Int32), P r → ∀ (H1 : Heap) (locs1 : List Loc), B' H1 → (∀ q : Nat, q < H.size → ¬ A1 q → H1[q]? = H[q]?) → H.size ≤ H1.size → va_S A0 s.heap H1 locs1 → W p l e R s m args below meth c H1 locs1 cells slots Q (F0 m (pc + 3) ls (.int r :: rest))) : W p l e R s m args below meth c H locs cells slots Q (F0 m pc ls st0) := by
  refine va_calli (va_runS S hM cw ⟨z_blindx, fun U hU hW => ⟨rfl, by rw [hU]; exact hB, by rw [hU]; exact Nat.lt_of_lt_of_le hbl hS.1, by rw [hU]; exact va_X.moved hW.alike (hX.kept (hS.2.1 b hbl hbA))⟩⟩ rfl hn hsize hst (lv_room hW) hdg hf) hS (fun q _ h => hA q h) hA (fun r u t H1 locs1 ht hvm hw hB1 hz1 hk1 hS1 => ?_)
  rw [ht] at hB1
  exact kk r hw H1 locs1 hB1 hk1 hz1 hS1
end ZLAW
theorem q_belowL {v n : Int32} (m : Int) (hm : n.toInt = m) (h0 : 0 < m) : 0 ≤ (rL_below v n).toInt ∧ (rL_below v n).toInt < m := by
  have := q_below v n (by omega)
  omega
theorem q_addc {n x : Int32} (c : Int) (hc : n.toInt = c) (h0 : 0 ≤ c) (h1 : c ≤ 1000) (h : 0 ≤ x.toInt ∧ x.toInt ≤ 100000) : (n + x).toInt = c + x.toInt := by
  rw [fb_addI (by omega) (by omega), hc]
theorem q_toK {x : Int32} {N : Nat} (h0 : 0 ≤ x.toInt) (h : x.toInt ≤ (N : Int)) : ∃ k, k ≤ N ∧ x = nI k := by
  have hr := fb_rng x
  refine ⟨x.toInt.toNat, by omega, Int32.toInt_inj.mp ?_⟩
  rw [nI_toInt (by omega)]
  omega
theorem q_of1 {y : Int32} (h0 : 0 ≤ y.toInt) (h : y.toInt < 5) : ∃ nb, 1 ≤ nb ∧ nb ≤ 5 ∧ 1 + y = nI nb := by
  refine ⟨(1 + y).toInt.toNat, ?_, ?_, Int32.toInt_inj.mp ?_⟩ <;> rw [q_addc (n := 1) 1 rfl (by decide) (by decide) (by omega)]
  · omega
  · omega
  · rw [nI_toInt (by omega)]; omega
theorem q_nn1 {k : Nat} {i x : Int32} (ei : i = nI k) (hk : k < 1000) (hx : x = 1 + i) : 0 ≤ x.toInt := by
  have h := nI_toInt (n := k) (by omega)
  rw [hx, ei, q_addc (n := 1) 1 rfl (by decide) (by decide) (by omega)]
  omega
theorem q_ge2 {x : Int32} {n : Nat} (e : x = nI n) (hn : n < 100) (h : (2 : Int32) ≤ x) : 2 ≤ n := by
  rw [e, Int32.le_iff_toInt_le, nI_toInt (by omega)] at h
  have h2 : (2 : Int32).toInt = 2 := rfl
  omega
theorem q_pred {n : Nat} (h : 1 ≤ n ∧ n < 100) : nI n - 1 = nI (n - 1) := by
  obtain ⟨k, rfl⟩ : ∃ k, n = k + 1 := ⟨n - 1, by omega⟩
  rw [← q_nI1, Nat.add_sub_cancel]
  apply Int32.toInt_inj.mp
  have h1 : (nI k).toInt = (k : Int) := nI_toInt (by omega)
  have h2 : (1 : Int32).toInt = 1 := rfl
  rw [fb_subI (by rw [fb_addI (by omega) (by omega)]; omega) (by rw [fb_addI (by omega) (by omega)]; omega), fb_addI (by omega) (by omega)]
  omega
theorem q_nI_ne {a b : Nat} (ha : a < 100) (hb : b < 100) (h : b ≠ a) : ¬ nI a = nI b := fun e => by
  have := congrArg Int32.toInt e
  rw [nI_toInt (by omega), nI_toInt (by omega)] at this
  omega
theorem q_other {k1 k2 n : Nat} (h1 : k1 < n) (h2 : k2 < n - 1) (hn : 2 ≤ n) (h100 : n < 100) : ∃ k, k < n ∧ k ≠ k1 ∧ nI k1 + 1 + nI k2 - (nI k1 + 1 + nI k2) / nI n * nI n = nI k := by
  have i1 : (nI k1).toInt = (k1 : Int) := nI_toInt (by omega)
  have i2 : (nI k2).toInt = (k2 : Int) := nI_toInt (by omega)
  have i3 : (nI n).toInt = (n : Int) := nI_toInt (by omega)
  have o1 : (1 : Int32).toInt = 1 := rfl
  have s1 : (nI k1 + 1).toInt = (k1 : Int) + 1 := by rw [fb_addI (by omega) (by omega)]; omega
  have s2 : (nI k1 + 1 + nI k2).toInt = (k1 : Int) + 1 + k2 := by rw [fb_addI (by omega) (by omega)]; omega
  have d : ((nI k1 + 1 + nI k2) / nI n).toInt = ((k1 : Int) + 1 + k2) / n := by rw [q_div (by omega) (by omega), s2, i3]
  by_cases c : k1 + 1 + k2 < n
  · have d0 : ((k1 : Int) + 1 + k2) / n = 0 := Int.ediv_eq_zero_of_lt (by omega) (by omega)
    refine ⟨k1 + 1 + k2, c, by omega, Int32.toInt_inj.mp ?_⟩
    have m0 : ((nI k1 + 1 + nI k2) / nI n * nI n).toInt = 0 := by rw [fb_mulI (by rw [d, d0]; omega) (by rw [d, d0]; omega), d, d0]; omega
    rw [fb_subI (by omega) (by omega), m0, s2, nI_toInt (by omega)]
    omega
  · have d1 : ((k1 : Int) + 1 + k2) / n = 1 := by
      have e : ((k1 : Int) + 1 + k2) = ((k1 : Int) + 1 + k2 - n) + n := by omega
      rw [e, Int.add_ediv_of_dvd_right (Int.dvd_refl _), Int.ediv_eq_zero_of_lt (by omega) (by omega), Int.ediv_self (by omega)]
      omega
    refine ⟨k1 + 1 + k2 - n, by omega, by omega, Int32.toInt_inj.mp ?_⟩
    have m0 : ((nI k1 + 1 + nI k2) / nI n * nI n).toInt = n := by rw [fb_mulI (by rw [d, d1]; omega) (by rw [d, d1]; omega), d, d1]; omega
    rw [fb_subI (by omega) (by omega), m0, s2, nI_toInt (by omega)]
    omega
def zL1 (sz : Nat) : Nat → Nat := zad (sz + 1) (sz + 1 + 1)
def zL2 (sz : Nat) : Nat → Nat := zad (sz + 1 + 51) (sz + 1 + 52)
theorem zL1_cs {sz i : Nat} (hi : zk i < 200) : sz + 1 ≤ zL1 sz i ∧ zL1 sz i < sz + 52 := by
  have := zad_cs (h0 := sz + 1) (sz := sz + 1 + 1) hi
  unfold zL1
  omega
theorem zL2_cs {sz i : Nat} (hi : zk i < 200) : sz + 52 ≤ zL2 sz i ∧ zL2 sz i < sz + 103 := by
  have := zad_cs (h0 := sz + 1 + 51) (sz := sz + 1 + 52) hi
  unfold zL2
  omega
theorem zL1_I {sz : Nat} : z_I zd (zL1 sz) := zI_zad (wd := zd) (fun a h => h) (by omega)
theorem zL2_I {sz : Nat} : z_I zd (zL2 sz) := zI_zad (wd := zd) (fun a h => h) (by omega)
theorem zL_sep {sz : Nat} : zSep sz (zL1 sz) (zL2 sz) := ⟨fun i j hi hj e => by have := zL1_cs (sz := sz) hi; have := zL2_cs (sz := sz) hj; omega, fun i hi e => by have := zL1_cs (sz := sz) hi; omega, fun i hi e => by have := zL2_cs (sz := sz) hi; omega⟩
theorem zL_A {sz : Nat} : ∀ q, zA2 (zL1 sz) (zL2 sz) q → sz ≤ q := by
  rintro q (⟨i, hi, rfl⟩ | ⟨i, hi, rfl⟩)
  · have := zL1_cs (sz := sz) hi; omega
  · have := zL2_cs (sz := sz) hi; omega
/-- the field that 'of' makes, at the first new cell -/
def zOfEnd (dC : Nat → ClassId) (dI : Nat → Nat → Nat) (ca : Nat → ClassId) (sz a : Nat) (H : Heap) : Prop := a = sz ∧ ∃ (M : zM) (nb nf nw ns : Nat), 1 ≤ nb ∧ zOf nb nf nw ns M ∧ zT dC dI ca sz (zL1 sz 0) (zL2 sz 0) H ∧ zW dC dI ca (zL1 sz) M H ∧ zW dC dI ca (zL2 sz) zMi H
theorem zOfEnd.mk {dC : Nat → ClassId} {dI : Nat → Nat → Nat} {ca : Nat → ClassId} {sz sf : Nat} {ad ad2 : Nat → Nat} {H : Heap} {M : zM} {nb nf nw ns : Nat} (h1 : sf = sz) (h2 : ad = zL1 sz) (h3 : ad2 = zL2 sz) (hn : 1 ≤ nb) (hv : zOf nb nf nw ns M) (hT : zT dC dI ca sf (ad 0) (ad2 0) H) (hH : zW dC dI ca ad M H) (hG : zW dC dI ca ad2 zMi H) : zOfEnd dC dI ca sz sf H := by
  subst h1; subst h2; subst h3
  exact ⟨rfl, M, nb, nf, nw, ns, hn, hv, hT, hH, hG⟩
abbrev z_Pf (dC : Nat → ClassId) (dI : Nat → Nat → Nat) (ca : Nat → ClassId) (sz b L : Nat) (xs : Nat → Int32) : Array Value → State → Prop := va_Pc [.ref b] (fun U => (U.heap.size = sz ∧ b < sz ∧ va_X b L xs U U.heap) ∧ va_K (dC, dI) vwCl (zt ca) U ∧ z_N zw_nest U ∧ zAO U)
abbrev z_Qf (dC : Nat → ClassId) (dI : Nat → Nat → Nat) (ca : Nat → ClassId) (sz : Nat) (A : Nat → Prop) : Array Value → State → Outcome → State → Prop := va_Qr (fun (_ : Unit) => True) (fun _ a t => zOfEnd dC dI ca sz a t.heap) A
set_option maxHeartbeats 4000000 in
set_option maxRecDepth 100000 in
theorem m_L_of (l : Launch) (dC : Nat → ClassId) (dI : Nat → Nat → Nat) (ca : Nat → ClassId) (sz b L : Nat) (hL : L ≤ 260) (xs : Nat → Int32) : Met l yL_of wsL_of ({ frames := 5, cells := 103, slots := 522, locals := 94 }) (z_Pf dC dI ca sz b L xs) (z_Qf dC dI ca sz (fun q => sz ≤ q)) 103 522 (fun q => sz ≤ q) := by
  refine Met.ofW (cc := cL_of) (maxL := 7) (ret := (some (.object "Steamfield"))) (by decide) rfl ?_
  intro p e s m args below meth c s₁ B9 hml hv
  obtain ⟨rfl, ⟨hz, hbs, hX⟩, hK, hN, hXo⟩ := hv
  have hx := B9.exec
  have hb := B9.bytes
  have hr := B9.returns
  have hts := atoms_spec (ws := wsL_of) B9.pre
  have hown : s.vm.findClass RL = some m.cls := findClass_of_methodNamed B9.named
  have hlocks := B9.notSynchronized
  have hS : va_S (fun q => sz ≤ q) s.heap s.heap [] := va_S.rf
  have hA : ∀ q, s.heap.size ≤ q → (fun q => sz ≤ q) q := fun q h => by rw [hz] at h; exact h
  have hbl : b < s.heap.size := by rw [hz]; exact hbs
  have hbA : ¬ (fun q => sz ≤ q) b := Nat.not_le.mpr hbs
  have hinX8 : ∀ w ∈ u_ws RX8 TX8 2, w ∈ wsL_of := by decide +kernel
  have hl := lv_entry ([.ref b]) (n := 7) (Nat.le_of_ble_eq_true rfl)
  rw [lg_entry_eq]
  generalize (lg_sl ([.ref b]) ++ List.replicate (7 - (lg_sl ([.ref b])).length) Slot.unset).toArray = ls at hl ⊢
  have hl : lv_has ls 7 [(0, .ref b)] := hl
  have hH : z_H (dC, dI) vwCl zf ca zSe (zs sz (sz + 1) (sz + 1 + 51)) zM0 s.heap := fun i hi => absurd hi (by show ¬ (999 < 200); decide)
  refine z_new (D := (dC, dI)) (cl := vwCl) (fl := zf) (ca := ca) (ad := (zs sz (sz + 1) (sz + 1 + 51))) (C := RX8) (T := TX8) (N := 2) (ci := 8) (i := 0) hx hb hts hinX8 tyX8 tyX8_ok hown (hts (.classLink RL 9 RX8) (by decide +kernel)) (hts (.instantiable RX8 2) (by decide +kernel)) (hts (.initialized RX8) (by decide +kernel)) hK hH hS hA rfl (by decide) (by rw [hz]; rfl) (fun _ => rfl) (fun _ => rfl) (z_born 8 tyX8 2 (by decide)) (Nat.le_of_ble_eq_true rfl) (Nat.le_of_ble_eq_true rfl) dL_of_0 (fun H hH z1 o1 hS => ?_)
  have hz : H.size = sz + 1 + 0 := by omega
  refine lv_dup hx hb dL_of_3 rfl ?_
  refine z_cIP (D := (dC, dI)) (cl := vwCl) (tys := zt ca) (nw := zw_nest) (As := []) (rest := [.ref (zs sz (sz + 1) (sz + 1 + 51) 0)]) ⟨hx, hb, hml, hown, hts⟩ (m_X8_init l dC dI ca sz (sz + 1) (by omega)) (cwI 0 hts gL_of_X8_init rfl rfl rfl (hts (.initialized RX8) (by decide +kernel)) (hts (.methodLink RL 11 yX8_init) (by decide +kernel)) (hts (.instanceMethod yX8_init) (by decide +kernel)) rfl (by decide +kernel) ⟨Nat.le_of_ble_eq_true rfl, Nat.le_of_ble_eq_true rfl⟩) ⟨hz, hH⟩ hK hN hXo zw_nest_ok rfl hl.1 rfl (Nat.le_of_ble_eq_true rfl) dL_of_4 ⟨Nat.le_of_ble_eq_true rfl, Nat.le_of_ble_eq_true rfl⟩ hS (by rintro q (h9 | h9) <;> (show sz ≤ q) <;> omega) (fun H locs hB1 oq1 hz1 hS => ?_)
  obtain ⟨hz, hT, hH, hG⟩ := hB1
  obtain ⟨sf, hsf⟩ : ∃ z, z = sz := ⟨_, rfl⟩
  obtain ⟨ad, had⟩ : ∃ z, z = zL1 sz := ⟨_, rfl⟩
  obtain ⟨ad2, had2⟩ : ∃ z, z = zL2 sz := ⟨_, rfl⟩
  have hT : zT dC dI ca sf (ad 0) (ad2 0) H := by rw [hsf, had, had2]; exact hT
  have hH : zW dC dI ca ad zMi H := by rw [had]; exact hH
  have hG : zW dC dI ca ad2 zMi H := by rw [had2]; exact hG
  have hI : z_I zd ad := by rw [had]; exact zL1_I
  have hI2 : z_I zd ad2 := by rw [had2]; exact zL2_I
  have hq : zSep sf ad ad2 := by rw [hsf, had, had2]; exact zL_sep
  have hAA : ∀ q, zA2 ad ad2 q → (fun q => sz ≤ q) q := by rw [had, had2]; exact zL_A
  refine W.eq (g2 := F0 m 7 ls [.ref sf]) (by rw [hsf]; rfl) ?_
  refine lv_astore_n (lv' := [(1, .ref sf), (0, .ref b)]) hx hb dL_of_7 rfl hl (by decide) rfl (fun ls hl => ?_)
  refine lv_iconst (v := 1) hx hb dL_of_8 (by decide) ?_
  refine lv_aload_n hx hb dL_of_9 rfl (lv_at hl 1 rfl) ?_
  refine lv_iconst (v := 0) hx hb dL_of_10 (by decide) ?_
  refine z_cXp (As := [.ref b, .int 0]) (rest := [.int 1]) ⟨hx, hb, hml, hown, hts⟩ (m_L_cell l b L hL xs (fun H => zT dC dI ca sf (ad 0) (ad2 0) H ∧ zW dC dI ca ad zMi H ∧ zW dC dI ca ad2 zMi H) 0 (by decide)) (cwS 2 hts gL_of_L_cell rfl rfl rfl (by decide +kernel) ⟨Nat.le_of_ble_eq_true rfl, Nat.le_of_ble_eq_true rfl⟩) hX hbl hbA ⟨hT, hH, hG⟩ rfl hl.1 rfl (Nat.le_of_ble_eq_true rfl) dL_of_11 ⟨Nat.le_refl _, Nat.le_refl _⟩ hS (fun _ h => h.elim) (fun x1 _ H locs hB1 oq1 hz1 hS => ?_)
  obtain ⟨hT, hH, hG⟩ := hB1
  refine lv_iconst (v := 5) hx hb dL_of_14 (by decide) ?_
  refine z_cSi (D := (dC, dI)) (cl := vwCl) (tys := zt ca) (nw := zw_nest) (As := [.int x1, .int 5]) (rest := [.int 1]) ⟨hx, hb, hml, hown, hts⟩ (m_L_below l dC dI ca (fun H => zT dC dI ca sf (ad 0) (ad2 0) H ∧ zW dC dI ca ad zMi H ∧ zW dC dI ca ad2 zMi H) x1 5 (by decide)) (cwS 2 hts gL_of_L_below rfl rfl rfl (by decide +kernel) ⟨Nat.le_of_ble_eq_true rfl, Nat.le_of_ble_eq_true rfl⟩) ⟨hT, hH, hG⟩ hK hN zw_nest_ok rfl hl.1 rfl (Nat.le_of_ble_eq_true rfl) dL_of_15 ⟨Nat.le_refl _, Nat.le_refl _⟩ hS (fun _ h => h.elim) (fun H locs hB1 oq1 hz1 hS => ?_)
  obtain ⟨hT, hH, hG⟩ := hB1
  refine lv_topi (fun x3 ex3 => ?_)
  have gx3 : 0 ≤ x3.toInt ∧ x3.toInt < 5 := by rw [ex3]; exact q_belowL 5 rfl (by decide)
  refine lv_iadd hx hb dL_of_18 ?_
  refine lv_topi (fun x4 ex4 => ?_)
  refine lv_istore_n (lv' := [(2, .int x4), (1, .ref sf), (0, .ref b)]) hx hb dL_of_19 rfl hl (by decide) rfl (fun ls hl => ?_)
  obtain ⟨nb, hnb1, hnb5, enb⟩ : ∃ nb, 1 ≤ nb ∧ nb ≤ 5 ∧ x4 = nI nb := by rw [ex4]; exact q_of1 gx3.1 gx3.2
  refine lv_iconst (v := 0) hx hb dL_of_20 (by decide) ?_
  refine lv_istore_n (lv' := [(3, .int 0), (2, .int x4), (1, .ref sf), (0, .ref b)]) hx hb dL_of_21 rfl hl (by decide) rfl (fun ls hl => ?_)
  have L9 : ∀ (d7 k5 : Nat), k5 ≤ nb → nb - k5 < d7 → ∀ M8 : zM, (zOf k5 0 0 0 M8) → ∀ i6 : Int32, i6 = nI k5 → ∀ ls : Array Slot, lv_has ls 7 [(0, .ref b), (1, .ref sf), (2, .int x4), (3, .int i6)] → ∀ (H : Heap) (locs : List Loc), zT dC dI ca sf (ad 0) (ad2 0) H → zW dC dI ca ad M8 H → zW dC dI ca ad2 zMi H → va_S (fun q => sz ≤ q) s.heap H locs → W p l e (headSpec wsL_of ({ frames := 5, cells := 103, slots := 522, locals := 94 })).room s m ([.ref b] : List Value).toArray below meth c H locs 103 522 (MQ below (z_Qf dC dI ca sz (fun q => sz ≤ q)) ([.ref b] : List Value).toArray s 103 522 (fun q => sz ≤ q)) (F0 m 22 ls []) := by
    intro d7
    induction d7 with
    | zero => intro k5 hk5 hd; exact absurd hd (by omega)
    | succ d7 ihk5 =>
      intro k5 hk5 hd M8 vk5 i6 ei6 ls hl H locs hT hH hG hS
      have hOk := vk5.ok
      refine lv_iload_n hx hb dL_of_22 rfl (lv_at hl 3 rfl) ?_
      refine lv_iload_n hx hb dL_of_23 rfl (lv_at hl 2 rfl) ?_
      refine lv_icmp_ge (tgt := 120) hx hb dL_of_24 (by decide) (fun c10 => ?_) (fun c10 => ?_)
      · have hkk5 : k5 = nb := z_ge enb ei6 hk5 (by omega) c10
        rw [hkk5] at vk5
        have hOk := vk5.ok
        refine lv_iload_n hx hb dL_of_120 rfl (lv_at hl 2 rfl) ?_
        refine lv_iconst (v := 2) hx hb dL_of_121 (by decide) ?_
        have J12 : ∀ v11 : Int32, (∃ nf, nf ≤ 6 ∧ v11 = nI nf ∧ (nf = 0 ∨ 2 ≤ nb)) → ∀ ls : Array Slot, lv_has ls 7 [(0, .ref b), (1, .ref sf), (2, .int x4), (3, .int i6)] → ∀ (H : Heap) (locs : List Loc), zT dC dI ca sf (ad 0) (ad2 0) H → zW dC dI ca ad M8 H → zW dC dI ca ad2 zMi H → va_S (fun q => sz ≤ q) s.heap H locs → W p l e (headSpec wsL_of ({ frames := 5, cells := 103, slots := 522, locals := 94 })).room s m ([.ref b] : List Value).toArray below meth c H locs 103 522 (MQ below (z_Qf dC dI ca sz (fun q => sz ≤ q)) ([.ref b] : List Value).toArray s 103 522 (fun q => sz ≤ q)) (F0 m 140 ls [.int v11]) := by
          intro v11 p13 ls hl H locs hT hH hG hS
          obtain ⟨nf, hnf6, enf, hnf2⟩ := p13
          refine lv_istore_n (lv' := [(3, .int v11), (0, .ref b), (1, .ref sf), (2, .int x4)]) hx hb dL_of_140 rfl hl (by decide) rfl (fun ls hl => ?_)
          refine lv_iconst (v := 0) hx hb dL_of_141 (by decide) ?_
          refine lv_istore (lv' := [(4, .int 0), (3, .int v11), (0, .ref b), (1, .ref sf), (2, .int x4)]) hx hb dL_of_142 hl (by decide) rfl (fun ls hl => ?_)
          have L18 : ∀ (d16 k14 : Nat), k14 ≤ nf → nf - k14 < d16 → ∀ M17 : zM, (zOf nb k14 0 0 M17) → ∀ i15 : Int32, i15 = nI k14 → ∀ ls : Array Slot, lv_has ls 7 [(0, .ref b), (1, .ref sf), (2, .int x4), (3, .int v11), (4, .int i15)] → ∀ (H : Heap) (locs : List Loc), zT dC dI ca sf (ad 0) (ad2 0) H → zW dC dI ca ad M17 H → zW dC dI ca ad2 zMi H → va_S (fun q => sz ≤ q) s.heap H locs → W p l e (headSpec wsL_of ({ frames := 5, cells := 103, slots := 522, locals := 94 })).room s m ([.ref b] : List Value).toArray below meth c H locs 103 522 (MQ below (z_Qf dC dI ca sz (fun q => sz ≤ q)) ([.ref b] : List Value).toArray s 103 522 (fun q => sz ≤ q)) (F0 m 144 ls []) := by
            intro d16
            induction d16 with
            | zero => intro k14 hk14 hd; exact absurd hd (by omega)
            | succ d16 ihk14 =>
              intro k14 hk14 hd M17 vk14 i15 ei15 ls hl H locs hT hH hG hS
              have hOk := vk14.ok
              refine lv_iload hx hb dL_of_144 (lv_at hl 4 rfl) ?_
              refine lv_iload_n hx hb dL_of_146 rfl (lv_at hl 3 rfl) ?_
              refine lv_icmp_ge (tgt := 218) hx hb dL_of_147 (by decide) (fun c19 => ?_) (fun c19 => ?_)
              · have hkk14 : k14 = nf := z_ge enf ei15 hk14 (by omega) c19
                rw [hkk14] at vk14
                have hOk := vk14.ok
                refine lv_aload_n hx hb dL_of_218 rfl (lv_at hl 0 rfl) ?_
                refine lv_bipush (v := 9) hx hb dL_of_219 (by decide) ?_
                refine z_cXp (As := [.ref b, .int 9]) (rest := []) ⟨hx, hb, hml, hown, hts⟩ (m_L_cell l b L hL xs (fun H => zT dC dI ca sf (ad 0) (ad2 0) H ∧ zW dC dI ca ad M17 H ∧ zW dC dI ca ad2 zMi H) 9 (by decide)) (cwS 2 hts gL_of_L_cell rfl rfl rfl (by decide +kernel) ⟨Nat.le_of_ble_eq_true rfl, Nat.le_of_ble_eq_true rfl⟩) hX hbl hbA ⟨hT, hH, hG⟩ rfl hl.1 rfl (Nat.le_of_ble_eq_true rfl) dL_of_221 ⟨Nat.le_refl _, Nat.le_refl _⟩ hS (fun _ h => h.elim) (fun x20 _ H locs hB1 oq1 hz1 hS => ?_)
                obtain ⟨hT, hH, hG⟩ := hB1
                refine lv_bipush (v := 7) hx hb dL_of_224 (by decide) ?_
                refine z_cSi (D := (dC, dI)) (cl := vwCl) (tys := zt ca) (nw := zw_nest) (As := [.int x20, .int 7]) (rest := []) ⟨hx, hb, hml, hown, hts⟩ (m_L_below l dC dI ca (fun H => zT dC dI ca sf (ad 0) (ad2 0) H ∧ zW dC dI ca ad M17 H ∧ zW dC dI ca ad2 zMi H) x20 7 (by decide)) (cwS 2 hts gL_of_L_below rfl rfl rfl (by decide +kernel) ⟨Nat.le_of_ble_eq_true rfl, Nat.le_of_ble_eq_true rfl⟩) ⟨hT, hH, hG⟩ hK hN zw_nest_ok rfl hl.1 rfl (Nat.le_of_ble_eq_true rfl) dL_of_226 ⟨Nat.le_refl _, Nat.le_refl _⟩ hS (fun _ h => h.elim) (fun H locs hB1 oq1 hz1 hS => ?_)
                obtain ⟨hT, hH, hG⟩ := hB1
                refine lv_topi (fun x22 ex22 => ?_)
                have gx22 : 0 ≤ x22.toInt ∧ x22.toInt < 7 := by rw [ex22]; exact q_belowL 7 rfl (by decide)
                refine lv_istore (lv' := [(4, .int x22), (0, .ref b), (1, .ref sf), (2, .int x4), (3, .int v11)]) hx hb dL_of_229 hl (by decide) rfl (fun ls hl => ?_)
                obtain ⟨nw, hnw6, enw⟩ : ∃ k, k ≤ 6 ∧ x22 = nI k := q_toK gx22.1 (by omega)
                refine lv_iconst (v := 0) hx hb dL_of_231 (by decide) ?_
                refine lv_istore (lv' := [(5, .int 0), (4, .int x22), (0, .ref b), (1, .ref sf), (2, .int x4), (3, .int v11)]) hx hb dL_of_232 hl (by decide) rfl (fun ls hl => ?_)
                have L27 : ∀ (d25 k23 : Nat), k23 ≤ nw → nw - k23 < d25 → ∀ M26 : zM, (zOf nb nf k23 0 M26) → ∀ i24 : Int32, i24 = nI k23 → ∀ ls : Array Slot, lv_has ls 7 [(0, .ref b), (1, .ref sf), (2, .int x4), (3, .int v11), (4, .int x22), (5, .int i24)] → ∀ (H : Heap) (locs : List Loc), zT dC dI ca sf (ad 0) (ad2 0) H → zW dC dI ca ad M26 H → zW dC dI ca ad2 zMi H → va_S (fun q => sz ≤ q) s.heap H locs → W p l e (headSpec wsL_of ({ frames := 5, cells := 103, slots := 522, locals := 94 })).room s m ([.ref b] : List Value).toArray below meth c H locs 103 522 (MQ below (z_Qf dC dI ca sz (fun q => sz ≤ q)) ([.ref b] : List Value).toArray s 103 522 (fun q => sz ≤ q)) (F0 m 234 ls []) := by
                  intro d25
                  induction d25 with
                  | zero => intro k23 hk23 hd; exact absurd hd (by omega)
                  | succ d25 ihk23 =>
                    intro k23 hk23 hd M26 vk23 i24 ei24 ls hl H locs hT hH hG hS
                    have hOk := vk23.ok
                    refine lv_iload hx hb dL_of_234 (lv_at hl 5 rfl) ?_
                    refine lv_iload hx hb dL_of_236 (lv_at hl 4 rfl) ?_
                    refine lv_icmp_ge (tgt := 309) hx hb dL_of_238 (by decide) (fun c28 => ?_) (fun c28 => ?_)
                    · have hkk23 : k23 = nw := z_ge enw ei24 hk23 (by omega) c28
                      rw [hkk23] at vk23
                      have hOk := vk23.ok
                      refine lv_aload_n hx hb dL_of_309 rfl (lv_at hl 0 rfl) ?_
                      refine lv_bipush (v := 12) hx hb dL_of_310 (by decide) ?_
                      refine z_cXp (As := [.ref b, .int 12]) (rest := []) ⟨hx, hb, hml, hown, hts⟩ (m_L_cell l b L hL xs (fun H => zT dC dI ca sf (ad 0) (ad2 0) H ∧ zW dC dI ca ad M26 H ∧ zW dC dI ca ad2 zMi H) 12 (by decide)) (cwS 2 hts gL_of_L_cell rfl rfl rfl (by decide +kernel) ⟨Nat.le_of_ble_eq_true rfl, Nat.le_of_ble_eq_true rfl⟩) hX hbl hbA ⟨hT, hH, hG⟩ rfl hl.1 rfl (Nat.le_of_ble_eq_true rfl) dL_of_312 ⟨Nat.le_refl _, Nat.le_refl _⟩ hS (fun _ h => h.elim) (fun x29 _ H locs hB1 oq1 hz1 hS => ?_)
                      obtain ⟨hT, hH, hG⟩ := hB1
                      refine lv_iconst (v := 4) hx hb dL_of_315 (by decide) ?_
                      refine z_cSi (D := (dC, dI)) (cl := vwCl) (tys := zt ca) (nw := zw_nest) (As := [.int x29, .int 4]) (rest := []) ⟨hx, hb, hml, hown, hts⟩ (m_L_below l dC dI ca (fun H => zT dC dI ca sf (ad 0) (ad2 0) H ∧ zW dC dI ca ad M26 H ∧ zW dC dI ca ad2 zMi H) x29 4 (by decide)) (cwS 2 hts gL_of_L_below rfl rfl rfl (by decide +kernel) ⟨Nat.le_of_ble_eq_true rfl, Nat.le_of_ble_eq_true rfl⟩) ⟨hT, hH, hG⟩ hK hN zw_nest_ok rfl hl.1 rfl (Nat.le_of_ble_eq_true rfl) dL_of_316 ⟨Nat.le_refl _, Nat.le_refl _⟩ hS (fun _ h => h.elim) (fun H locs hB1 oq1 hz1 hS => ?_)
                      obtain ⟨hT, hH, hG⟩ := hB1
                      refine lv_topi (fun x31 ex31 => ?_)
                      have gx31 : 0 ≤ x31.toInt ∧ x31.toInt < 4 := by rw [ex31]; exact q_belowL 4 rfl (by decide)
                      refine lv_istore (lv' := [(5, .int x31), (0, .ref b), (1, .ref sf), (2, .int x4), (3, .int v11), (4, .int x22)]) hx hb dL_of_319 hl (by decide) rfl (fun ls hl => ?_)
                      obtain ⟨ns, hns6, ens⟩ : ∃ k, k ≤ 3 ∧ x31 = nI k := q_toK gx31.1 (by omega)
                      refine lv_iconst (v := 0) hx hb dL_of_321 (by decide) ?_
                      refine lv_istore (lv' := [(6, .int 0), (5, .int x31), (0, .ref b), (1, .ref sf), (2, .int x4), (3, .int v11), (4, .int x22)]) hx hb dL_of_322 hl (by decide) rfl (fun ls hl => ?_)
                      have L36 : ∀ (d34 k32 : Nat), k32 ≤ ns → ns - k32 < d34 → ∀ M35 : zM, (zOf nb nf nw k32 M35) → ∀ i33 : Int32, i33 = nI k32 → ∀ ls : Array Slot, lv_has ls 7 [(0, .ref b), (1, .ref sf), (2, .int x4), (3, .int v11), (4, .int x22), (5, .int x31), (6, .int i33)] → ∀ (H : Heap) (locs : List Loc), zT dC dI ca sf (ad 0) (ad2 0) H → zW dC dI ca ad M35 H → zW dC dI ca ad2 zMi H → va_S (fun q => sz ≤ q) s.heap H locs → W p l e (headSpec wsL_of ({ frames := 5, cells := 103, slots := 522, locals := 94 })).room s m ([.ref b] : List Value).toArray below meth c H locs 103 522 (MQ below (z_Qf dC dI ca sz (fun q => sz ≤ q)) ([.ref b] : List Value).toArray s 103 522 (fun q => sz ≤ q)) (F0 m 324 ls []) := by
                        intro d34
                        induction d34 with
                        | zero => intro k32 hk32 hd; exact absurd hd (by omega)
                        | succ d34 ihk32 =>
                          intro k32 hk32 hd M35 vk32 i33 ei33 ls hl H locs hT hH hG hS
                          have hOk := vk32.ok
                          refine lv_iload hx hb dL_of_324 (lv_at hl 6 rfl) ?_
                          refine lv_iload hx hb dL_of_326 (lv_at hl 5 rfl) ?_
                          refine lv_icmp_ge (tgt := 388) hx hb dL_of_328 (by decide) (fun c37 => ?_) (fun c37 => ?_)
                          · have hkk32 : k32 = ns := z_ge ens ei33 hk32 (by omega) c37
                            rw [hkk32] at vk32
                            have hOk := vk32.ok
                            refine lv_aload_n hx hb dL_of_388 rfl (lv_at hl 1 rfl) ?_
                            exact W.aret (v := .ref sf) hx hb hr (Or.inl ⟨_, rfl⟩) (Or.inr ⟨_, rfl⟩) (fun t ht hW => ⟨⟨(), sf, rfl, trivial, by show zOfEnd dC dI ca sz sf t.heap; rw [ht]; exact zOfEnd.mk hsf had had2 hnb1 vk32 hT hH hG⟩, hS.F ht⟩) hS.2.2 dL_of_389
                          · have hkk32 : k32 < ns := z_lt ens ei33 hk32 (by omega) c37
                            refine lv_aload_n hx hb dL_of_331 rfl (lv_at hl 1 rfl) ?_
                            refine lv_aload_n hx hb dL_of_332 rfl (lv_at hl 0 rfl) ?_
                            refine lv_bipush (v := 13) hx hb dL_of_333 (by decide) ?_
                            refine z_cXp (As := [.ref b, .int 13]) (rest := [.ref sf]) ⟨hx, hb, hml, hown, hts⟩ (m_L_cell l b L hL xs (fun H => zT dC dI ca sf (ad 0) (ad2 0) H ∧ zW dC dI ca ad M35 H ∧ zW dC dI ca ad2 zMi H) 13 (by decide)) (cwS 2 hts gL_of_L_cell rfl rfl rfl (by decide +kernel) ⟨Nat.le_of_ble_eq_true rfl, Nat.le_of_ble_eq_true rfl⟩) hX hbl hbA ⟨hT, hH, hG⟩ rfl hl.1 rfl (Nat.le_of_ble_eq_true rfl) dL_of_335 ⟨Nat.le_refl _, Nat.le_refl _⟩ hS (fun _ h => h.elim) (fun x38 _ H locs hB1 oq1 hz1 hS => ?_)
                            obtain ⟨hT, hH, hG⟩ := hB1
                            refine lv_iload hx hb dL_of_338 (lv_at hl 6 rfl) ?_
                            refine lv_ishr hx hb dL_of_340 ?_
                            refine lv_topi (fun x39 ex39 => ?_)
                            refine lv_iload_n hx hb dL_of_341 rfl (lv_at hl 2 rfl) ?_
                            refine z_cSi (D := (dC, dI)) (cl := vwCl) (tys := zt ca) (nw := zw_nest) (As := [.int x39, .int x4]) (rest := [.ref sf]) ⟨hx, hb, hml, hown, hts⟩ (m_L_below l dC dI ca (fun H => zT dC dI ca sf (ad 0) (ad2 0) H ∧ zW dC dI ca ad M35 H ∧ zW dC dI ca ad2 zMi H) x39 x4 (by rw [enb]; exact q_nI_nz (by omega) (by omega))) (cwS 2 hts gL_of_L_below rfl rfl rfl (by decide +kernel) ⟨Nat.le_of_ble_eq_true rfl, Nat.le_of_ble_eq_true rfl⟩) ⟨hT, hH, hG⟩ hK hN zw_nest_ok rfl hl.1 rfl (Nat.le_of_ble_eq_true rfl) dL_of_342 ⟨Nat.le_refl _, Nat.le_refl _⟩ hS (fun _ h => h.elim) (fun H locs hB1 oq1 hz1 hS => ?_)
                            obtain ⟨hT, hH, hG⟩ := hB1
                            refine lv_topi (fun x41 ex41 => ?_)
                            obtain ⟨k42, hk42, ek42⟩ : ∃ k, k < nb ∧ x41 = nI k := by rw [ex41]; exact q_belowI _ (by omega) (by omega) enb
                            refine lv_aload_n hx hb dL_of_345 rfl (lv_at hl 0 rfl) ?_
                            refine lv_bipush (v := 13) hx hb dL_of_346 (by decide) ?_
                            refine z_cXp (As := [.ref b, .int 13]) (rest := [.int x41, .ref sf]) ⟨hx, hb, hml, hown, hts⟩ (m_L_cell l b L hL xs (fun H => zT dC dI ca sf (ad 0) (ad2 0) H ∧ zW dC dI ca ad M35 H ∧ zW dC dI ca ad2 zMi H) 13 (by decide)) (cwS 2 hts gL_of_L_cell rfl rfl rfl (by decide +kernel) ⟨Nat.le_of_ble_eq_true rfl, Nat.le_of_ble_eq_true rfl⟩) hX hbl hbA ⟨hT, hH, hG⟩ rfl hl.1 rfl (Nat.le_of_ble_eq_true rfl) dL_of_348 ⟨Nat.le_refl _, Nat.le_refl _⟩ hS (fun _ h => h.elim) (fun x43 _ H locs hB1 oq1 hz1 hS => ?_)
                            obtain ⟨hT, hH, hG⟩ := hB1
                            refine lv_iload hx hb dL_of_351 (lv_at hl 6 rfl) ?_
                            refine lv_iconst (v := 3) hx hb dL_of_353 (by decide) ?_
                            refine lv_iadd hx hb dL_of_354 ?_
                            refine lv_topi (fun x44 ex44 => ?_)
                            refine lv_ishr hx hb dL_of_355 ?_
                            refine lv_topi (fun x45 ex45 => ?_)
                            refine lv_sipush (v := 301) hx hb dL_of_356 (by decide) ?_
                            refine z_cSi (D := (dC, dI)) (cl := vwCl) (tys := zt ca) (nw := zw_nest) (As := [.int x45, .int 301]) (rest := [.int x41, .ref sf]) ⟨hx, hb, hml, hown, hts⟩ (m_L_below l dC dI ca (fun H => zT dC dI ca sf (ad 0) (ad2 0) H ∧ zW dC dI ca ad M35 H ∧ zW dC dI ca ad2 zMi H) x45 301 (by decide)) (cwS 2 hts gL_of_L_below rfl rfl rfl (by decide +kernel) ⟨Nat.le_of_ble_eq_true rfl, Nat.le_of_ble_eq_true rfl⟩) ⟨hT, hH, hG⟩ hK hN zw_nest_ok rfl hl.1 rfl (Nat.le_of_ble_eq_true rfl) dL_of_359 ⟨Nat.le_refl _, Nat.le_refl _⟩ hS (fun _ h => h.elim) (fun H locs hB1 oq1 hz1 hS => ?_)
                            obtain ⟨hT, hH, hG⟩ := hB1
                            refine lv_topi (fun x47 ex47 => ?_)
                            have gx47 : 0 ≤ x47.toInt ∧ x47.toInt < 301 := by rw [ex47]; exact q_belowL 301 rfl (by decide)
                            refine lv_aload_n hx hb dL_of_362 rfl (lv_at hl 0 rfl) ?_
                            refine lv_bipush (v := 13) hx hb dL_of_363 (by decide) ?_
                            refine z_cXp (As := [.ref b, .int 13]) (rest := [.int x47, .int x41, .ref sf]) ⟨hx, hb, hml, hown, hts⟩ (m_L_cell l b L hL xs (fun H => zT dC dI ca sf (ad 0) (ad2 0) H ∧ zW dC dI ca ad M35 H ∧ zW dC dI ca ad2 zMi H) 13 (by decide)) (cwS 2 hts gL_of_L_cell rfl rfl rfl (by decide +kernel) ⟨Nat.le_of_ble_eq_true rfl, Nat.le_of_ble_eq_true rfl⟩) hX hbl hbA ⟨hT, hH, hG⟩ rfl hl.1 rfl (Nat.le_of_ble_eq_true rfl) dL_of_365 ⟨Nat.le_refl _, Nat.le_refl _⟩ hS (fun _ h => h.elim) (fun x48 _ H locs hB1 oq1 hz1 hS => ?_)
                            obtain ⟨hT, hH, hG⟩ := hB1
                            refine lv_iload hx hb dL_of_368 (lv_at hl 6 rfl) ?_
                            refine lv_iconst (v := 2) hx hb dL_of_370 (by decide) ?_
                            refine lv_iadd hx hb dL_of_371 ?_
                            refine lv_topi (fun x49 ex49 => ?_)
                            refine lv_ishr hx hb dL_of_372 ?_
                            refine lv_topi (fun x50 ex50 => ?_)
                            refine lv_bipush (v := 51) hx hb dL_of_373 (by decide) ?_
                            refine z_cSi (D := (dC, dI)) (cl := vwCl) (tys := zt ca) (nw := zw_nest) (As := [.int x50, .int 51]) (rest := [.int x47, .int x41, .ref sf]) ⟨hx, hb, hml, hown, hts⟩ (m_L_below l dC dI ca (fun H => zT dC dI ca sf (ad 0) (ad2 0) H ∧ zW dC dI ca ad M35 H ∧ zW dC dI ca ad2 zMi H) x50 51 (by decide)) (cwS 2 hts gL_of_L_below rfl rfl rfl (by decide +kernel) ⟨Nat.le_of_ble_eq_true rfl, Nat.le_of_ble_eq_true rfl⟩) ⟨hT, hH, hG⟩ hK hN zw_nest_ok rfl hl.1 rfl (Nat.le_of_ble_eq_true rfl) dL_of_375 ⟨Nat.le_refl _, Nat.le_refl _⟩ hS (fun _ h => h.elim) (fun H locs hB1 oq1 hz1 hS => ?_)
                            obtain ⟨hT, hH, hG⟩ := hB1
                            refine lv_topi (fun x52 ex52 => ?_)
                            have gx52 : 0 ≤ x52.toInt ∧ x52.toInt < 51 := by rw [ex52]; exact q_belowL 51 rfl (by decide)
                            refine z_cVi (D := (dC, dI)) (cl := vwCl) (tys := zt ca) (nw := zw_nest) (C := RX8) (As := [.int x41, .int x47, .int x52]) (rest := []) ⟨hx, hb, hml, hown, hts⟩ (m_X8_spring l dC dI ca sf ad hI ad2 hI2 hq M35 zMi x41 x47 x52 hOk (by rw [vk32.k10, ek42]; exact q_ixk hk42 (by omega)) (q_rgk 0 300 rfl rfl (by omega) (by omega)) (q_rgk 0 50 rfl rfl (by omega) (by omega)) (by rw [vk32.k13]; omega)) (cwV 3 hts gL_of_X8_spring rfl rfl rfl (by decide +kernel) ⟨Nat.le_of_ble_eq_true rfl, Nat.le_of_ble_eq_true rfl⟩) (z_recv (ci := 8) (i := 0) hK hT rfl (by decide) rfl) ⟨hT, hH, hG⟩ hK hN zw_nest_ok rfl hl.1 rfl (Nat.le_of_ble_eq_true rfl) dL_of_378 ⟨Nat.le_refl _, Nat.le_refl _⟩ hS hAA (fun H locs hB1 oq1 hz1 hS => ?_)
                            obtain ⟨hT, hH, hG⟩ := hB1
                            refine lv_topi (fun x53 ex53 => ?_)
                            obtain ⟨M54, hM54⟩ : ∃ z : zM, z = fX8_spring M35 zMi x41 x47 x52 := ⟨_, rfl⟩
                            have hH : z_H (dC, dI) vwCl zf ca zd ad M54 H := by rw [hM54]; exact hH
                            refine lv_pop hx hb dL_of_381 rfl ?_
                            obtain ⟨x55, ex55⟩ : ∃ z : Int32, z = i33 + 1 := ⟨_, rfl⟩
                            refine lv_iinc (v := x55) (lv' := [(6, .int x55), (0, .ref b), (1, .ref sf), (2, .int x4), (3, .int v11), (4, .int x22), (5, .int x31)]) hx hb dL_of_382 hl (k := 6) rfl (by rw [ex55]; rfl) (by decide) rfl (fun ls hl => ?_)
                            refine lv_goto (tgt := 324) hx hb dL_of_385 (by decide) ?_
                            exact ihk32 (k32 + 1) hkk32 (by omega) M54 (by rw [hM54]; exact vk32.spring _ (by omega) (by rw [ek42]; exact q_ixk hk42 (by omega)) (q_rgk 0 300 rfl rfl (by omega) (by omega)) (q_rgk 0 50 rfl rfl (by omega) (by omega))) x55 (z_nx ei33 ex55) ls (lv_sub hl [1, 2, 3, 4, 5, 6, 0] rfl) _ _ hT hH hG hS
                      exact L36 (ns + 1) 0 (Nat.zero_le _) (by omega) M26 (vk23) _ rfl ls (lv_sub hl [2, 3, 4, 5, 6, 1, 0] rfl) H locs hT hH hG hS
                    · have hkk23 : k23 < nw := z_lt enw ei24 hk23 (by omega) c28
                      refine lv_aload_n hx hb dL_of_241 rfl (lv_at hl 1 rfl) ?_
                      refine lv_aload_n hx hb dL_of_242 rfl (lv_at hl 0 rfl) ?_
                      refine lv_bipush (v := 10) hx hb dL_of_243 (by decide) ?_
                      refine z_cXp (As := [.ref b, .int 10]) (rest := [.ref sf]) ⟨hx, hb, hml, hown, hts⟩ (m_L_cell l b L hL xs (fun H => zT dC dI ca sf (ad 0) (ad2 0) H ∧ zW dC dI ca ad M26 H ∧ zW dC dI ca ad2 zMi H) 10 (by decide)) (cwS 2 hts gL_of_L_cell rfl rfl rfl (by decide +kernel) ⟨Nat.le_of_ble_eq_true rfl, Nat.le_of_ble_eq_true rfl⟩) hX hbl hbA ⟨hT, hH, hG⟩ rfl hl.1 rfl (Nat.le_of_ble_eq_true rfl) dL_of_245 ⟨Nat.le_refl _, Nat.le_refl _⟩ hS (fun _ h => h.elim) (fun x56 _ H locs hB1 oq1 hz1 hS => ?_)
                      obtain ⟨hT, hH, hG⟩ := hB1
                      refine lv_iload hx hb dL_of_248 (lv_at hl 5 rfl) ?_
                      refine lv_ishr hx hb dL_of_250 ?_
                      refine lv_topi (fun x57 ex57 => ?_)
                      refine lv_iload_n hx hb dL_of_251 rfl (lv_at hl 2 rfl) ?_
                      refine z_cSi (D := (dC, dI)) (cl := vwCl) (tys := zt ca) (nw := zw_nest) (As := [.int x57, .int x4]) (rest := [.ref sf]) ⟨hx, hb, hml, hown, hts⟩ (m_L_below l dC dI ca (fun H => zT dC dI ca sf (ad 0) (ad2 0) H ∧ zW dC dI ca ad M26 H ∧ zW dC dI ca ad2 zMi H) x57 x4 (by rw [enb]; exact q_nI_nz (by omega) (by omega))) (cwS 2 hts gL_of_L_below rfl rfl rfl (by decide +kernel) ⟨Nat.le_of_ble_eq_true rfl, Nat.le_of_ble_eq_true rfl⟩) ⟨hT, hH, hG⟩ hK hN zw_nest_ok rfl hl.1 rfl (Nat.le_of_ble_eq_true rfl) dL_of_252 ⟨Nat.le_refl _, Nat.le_refl _⟩ hS (fun _ h => h.elim) (fun H locs hB1 oq1 hz1 hS => ?_)
                      obtain ⟨hT, hH, hG⟩ := hB1
                      refine lv_topi (fun x59 ex59 => ?_)
                      obtain ⟨k60, hk60, ek60⟩ : ∃ k, k < nb ∧ x59 = nI k := by rw [ex59]; exact q_belowI _ (by omega) (by omega) enb
                      refine lv_aload_n hx hb dL_of_255 rfl (lv_at hl 0 rfl) ?_
                      refine lv_bipush (v := 10) hx hb dL_of_256 (by decide) ?_
                      refine z_cXp (As := [.ref b, .int 10]) (rest := [.int x59, .ref sf]) ⟨hx, hb, hml, hown, hts⟩ (m_L_cell l b L hL xs (fun H => zT dC dI ca sf (ad 0) (ad2 0) H ∧ zW dC dI ca ad M26 H ∧ zW dC dI ca ad2 zMi H) 10 (by decide)) (cwS 2 hts gL_of_L_cell rfl rfl rfl (by decide +kernel) ⟨Nat.le_of_ble_eq_true rfl, Nat.le_of_ble_eq_true rfl⟩) hX hbl hbA ⟨hT, hH, hG⟩ rfl hl.1 rfl (Nat.le_of_ble_eq_true rfl) dL_of_258 ⟨Nat.le_refl _, Nat.le_refl _⟩ hS (fun _ h => h.elim) (fun x61 _ H locs hB1 oq1 hz1 hS => ?_)
                      obtain ⟨hT, hH, hG⟩ := hB1
                      refine lv_iload hx hb dL_of_261 (lv_at hl 5 rfl) ?_
                      refine lv_iconst (v := 5) hx hb dL_of_263 (by decide) ?_
                      refine lv_iadd hx hb dL_of_264 ?_
                      refine lv_topi (fun x62 ex62 => ?_)
                      refine lv_ishr hx hb dL_of_265 ?_
                      refine lv_topi (fun x63 ex63 => ?_)
                      refine lv_iconst (v := 3) hx hb dL_of_266 (by decide) ?_
                      refine z_cSi (D := (dC, dI)) (cl := vwCl) (tys := zt ca) (nw := zw_nest) (As := [.int x63, .int 3]) (rest := [.int x59, .ref sf]) ⟨hx, hb, hml, hown, hts⟩ (m_L_below l dC dI ca (fun H => zT dC dI ca sf (ad 0) (ad2 0) H ∧ zW dC dI ca ad M26 H ∧ zW dC dI ca ad2 zMi H) x63 3 (by decide)) (cwS 2 hts gL_of_L_below rfl rfl rfl (by decide +kernel) ⟨Nat.le_of_ble_eq_true rfl, Nat.le_of_ble_eq_true rfl⟩) ⟨hT, hH, hG⟩ hK hN zw_nest_ok rfl hl.1 rfl (Nat.le_of_ble_eq_true rfl) dL_of_267 ⟨Nat.le_refl _, Nat.le_refl _⟩ hS (fun _ h => h.elim) (fun H locs hB1 oq1 hz1 hS => ?_)
                      obtain ⟨hT, hH, hG⟩ := hB1
                      refine lv_topi (fun x65 ex65 => ?_)
                      have gx65 : 0 ≤ x65.toInt ∧ x65.toInt < 3 := by rw [ex65]; exact q_belowL 3 rfl (by decide)
                      have J67 : ∀ v66 : Int32, (v66 = 0 ∨ v66 = 1) → ∀ ls : Array Slot, lv_has ls 7 [(0, .ref b), (1, .ref sf), (2, .int x4), (3, .int v11), (4, .int x22), (5, .int i24)] → ∀ (H : Heap) (locs : List Loc), zT dC dI ca sf (ad 0) (ad2 0) H → zW dC dI ca ad M26 H → zW dC dI ca ad2 zMi H → va_S (fun q => sz ≤ q) s.heap H locs → W p l e (headSpec wsL_of ({ frames := 5, cells := 103, slots := 522, locals := 94 })).room s m ([.ref b] : List Value).toArray below meth c H locs 103 522 (MQ below (z_Qf dC dI ca sz (fun q => sz ≤ q)) ([.ref b] : List Value).toArray s 103 522 (fun q => sz ≤ q)) (F0 m 278 ls [.int v66, .int x59, .ref sf]) := by
                        intro v66 p68 ls hl H locs hT hH hG hS
                        refine z_cVi (D := (dC, dI)) (cl := vwCl) (tys := zt ca) (nw := zw_nest) (C := RX8) (As := [.int x59, .int v66]) (rest := []) ⟨hx, hb, hml, hown, hts⟩ (m_X8_well l dC dI ca sf ad hI ad2 hI2 hq M26 zMi x59 v66 hOk (by rw [vk23.k10, ek60]; exact q_ixk hk60 (by omega)) (by rw [vk23.k12]; omega) p68) (cwV 2 hts gL_of_X8_well rfl rfl rfl (by decide +kernel) ⟨Nat.le_of_ble_eq_true rfl, Nat.le_of_ble_eq_true rfl⟩) (z_recv (ci := 8) (i := 0) hK hT rfl (by decide) rfl) ⟨hT, hH, hG⟩ hK hN zw_nest_ok rfl hl.1 rfl (Nat.le_of_ble_eq_true rfl) dL_of_278 ⟨Nat.le_refl _, Nat.le_refl _⟩ hS hAA (fun H locs hB1 oq1 hz1 hS => ?_)
                        obtain ⟨hT, hH, hG⟩ := hB1
                        refine lv_topi (fun x69 ex69 => ?_)
                        obtain ⟨M70, hM70⟩ : ∃ z : zM, z = fX8_well M26 zMi x59 v66 := ⟨_, rfl⟩
                        have hH : z_H (dC, dI) vwCl zf ca zd ad M70 H := by rw [hM70]; exact hH
                        have wk23 : zOf nb nf (k23 + 1) 0 M70 := by rw [hM70]; exact vk23.well _ (by omega) (by rw [ek60]; exact q_ixk hk60 (by omega)) p68
                        have hOk := wk23.ok
                        refine lv_pop hx hb dL_of_281 rfl ?_
                        refine lv_aload_n hx hb dL_of_282 rfl (lv_at hl 1 rfl) ?_
                        refine lv_iload hx hb dL_of_283 (lv_at hl 5 rfl) ?_
                        refine lv_aload_n hx hb dL_of_285 rfl (lv_at hl 0 rfl) ?_
                        refine lv_bipush (v := 11) hx hb dL_of_286 (by decide) ?_
                        refine z_cXp (As := [.ref b, .int 11]) (rest := [.int i24, .ref sf]) ⟨hx, hb, hml, hown, hts⟩ (m_L_cell l b L hL xs (fun H => zT dC dI ca sf (ad 0) (ad2 0) H ∧ zW dC dI ca ad M70 H ∧ zW dC dI ca ad2 zMi H) 11 (by decide)) (cwS 2 hts gL_of_L_cell rfl rfl rfl (by decide +kernel) ⟨Nat.le_of_ble_eq_true rfl, Nat.le_of_ble_eq_true rfl⟩) hX hbl hbA ⟨hT, hH, hG⟩ rfl hl.1 rfl (Nat.le_of_ble_eq_true rfl) dL_of_288 ⟨Nat.le_refl _, Nat.le_refl _⟩ hS (fun _ h => h.elim) (fun x71 _ H locs hB1 oq1 hz1 hS => ?_)
                        obtain ⟨hT, hH, hG⟩ := hB1
                        refine lv_iload hx hb dL_of_291 (lv_at hl 5 rfl) ?_
                        refine lv_ishr hx hb dL_of_293 ?_
                        refine lv_topi (fun x72 ex72 => ?_)
                        refine lv_bipush (v := 10) hx hb dL_of_294 (by decide) ?_
                        refine z_cSi (D := (dC, dI)) (cl := vwCl) (tys := zt ca) (nw := zw_nest) (As := [.int x72, .int 10]) (rest := [.int i24, .ref sf]) ⟨hx, hb, hml, hown, hts⟩ (m_L_below l dC dI ca (fun H => zT dC dI ca sf (ad 0) (ad2 0) H ∧ zW dC dI ca ad M70 H ∧ zW dC dI ca ad2 zMi H) x72 10 (by decide)) (cwS 2 hts gL_of_L_below rfl rfl rfl (by decide +kernel) ⟨Nat.le_of_ble_eq_true rfl, Nat.le_of_ble_eq_true rfl⟩) ⟨hT, hH, hG⟩ hK hN zw_nest_ok rfl hl.1 rfl (Nat.le_of_ble_eq_true rfl) dL_of_296 ⟨Nat.le_refl _, Nat.le_refl _⟩ hS (fun _ h => h.elim) (fun H locs hB1 oq1 hz1 hS => ?_)
                        obtain ⟨hT, hH, hG⟩ := hB1
                        refine lv_topi (fun x74 ex74 => ?_)
                        have gx74 : 0 ≤ x74.toInt ∧ x74.toInt < 10 := by rw [ex74]; exact q_belowL 10 rfl (by decide)
                        refine z_cVi (D := (dC, dI)) (cl := vwCl) (tys := zt ca) (nw := zw_nest) (C := RX8) (As := [.int i24, .int x74]) (rest := []) ⟨hx, hb, hml, hown, hts⟩ (m_X8_valve l dC dI ca sf ad hI ad2 hI2 hq M70 zMi i24 x74 hOk (by rw [wk23.k12, ei24]; exact q_ixk (by omega) (by omega)) (q_rgk 0 9 rfl rfl (by omega) (by omega))) (cwV 2 hts gL_of_X8_valve rfl rfl rfl (by decide +kernel) ⟨Nat.le_of_ble_eq_true rfl, Nat.le_of_ble_eq_true rfl⟩) (z_recv (ci := 8) (i := 0) hK hT rfl (by decide) rfl) ⟨hT, hH, hG⟩ hK hN zw_nest_ok rfl hl.1 rfl (Nat.le_of_ble_eq_true rfl) dL_of_299 ⟨Nat.le_refl _, Nat.le_refl _⟩ hS hAA (fun H locs hB1 oq1 hz1 hS => ?_)
                        obtain ⟨hT, hH, hG, hFc⟩ := hB1
                        refine lv_topi (fun x75 ex75 => ?_)
                        obtain ⟨M76, hM76⟩ : ∃ z : zM, z = fX8_valve M70 zMi i24 x74 := ⟨_, rfl⟩
                        have hH : z_H (dC, dI) vwCl zf ca zd ad M76 H := by rw [hM76]; exact hH
                        refine lv_pop hx hb dL_of_302 rfl ?_
                        obtain ⟨x77, ex77⟩ : ∃ z : Int32, z = i24 + 1 := ⟨_, rfl⟩
                        refine lv_iinc (v := x77) (lv' := [(5, .int x77), (0, .ref b), (1, .ref sf), (2, .int x4), (3, .int v11), (4, .int x22)]) hx hb dL_of_303 hl (k := 5) rfl (by rw [ex77]; rfl) (by decide) rfl (fun ls hl => ?_)
                        refine lv_goto (tgt := 234) hx hb dL_of_306 (by decide) ?_
                        exact ihk23 (k23 + 1) hkk23 (by omega) M76 (by rw [hM76]; exact wk23.valve _ (k := k23) (by omega) ei24 (q_rgk 0 9 rfl rfl (by omega) (by omega))) x77 (z_nx ei24 ex77) ls (lv_sub hl [1, 2, 3, 4, 5, 0] rfl) _ _ hT hH hG hS
                      refine lv_if_ne (tgt := 277) hx hb dL_of_270 (by decide) (fun c78 => ?_) (fun c78 => ?_)
                      · refine lv_iconst (v := 0) hx hb dL_of_277 (by decide) ?_
                        exact J67 0 (by decide) ls (lv_sub hl [0, 1, 2, 3, 4, 5] rfl) H locs hT hH hG hS
                      · refine lv_iconst (v := 1) hx hb dL_of_273 (by decide) ?_
                        refine lv_goto (tgt := 278) hx hb dL_of_274 (by decide) ?_
                        exact J67 1 (by decide) ls (lv_sub hl [0, 1, 2, 3, 4, 5] rfl) H locs hT hH hG hS
                exact L27 (nw + 1) 0 (Nat.zero_le _) (by omega) M17 (vk14) _ rfl ls (lv_sub hl [2, 3, 4, 5, 1, 0] rfl) H locs hT hH hG hS
              · have hkk14 : k14 < nf := z_lt enf ei15 hk14 (by omega) c19
                refine lv_aload_n hx hb dL_of_150 rfl (lv_at hl 0 rfl) ?_
                refine lv_bipush (v := 7) hx hb dL_of_151 (by decide) ?_
                refine z_cXp (As := [.ref b, .int 7]) (rest := []) ⟨hx, hb, hml, hown, hts⟩ (m_L_cell l b L hL xs (fun H => zT dC dI ca sf (ad 0) (ad2 0) H ∧ zW dC dI ca ad M17 H ∧ zW dC dI ca ad2 zMi H) 7 (by decide)) (cwS 2 hts gL_of_L_cell rfl rfl rfl (by decide +kernel) ⟨Nat.le_of_ble_eq_true rfl, Nat.le_of_ble_eq_true rfl⟩) hX hbl hbA ⟨hT, hH, hG⟩ rfl hl.1 rfl (Nat.le_of_ble_eq_true rfl) dL_of_153 ⟨Nat.le_refl _, Nat.le_refl _⟩ hS (fun _ h => h.elim) (fun x79 _ H locs hB1 oq1 hz1 hS => ?_)
                obtain ⟨hT, hH, hG⟩ := hB1
                refine lv_iload hx hb dL_of_156 (lv_at hl 4 rfl) ?_
                refine lv_ishr hx hb dL_of_158 ?_
                refine lv_topi (fun x80 ex80 => ?_)
                refine lv_iload_n hx hb dL_of_159 rfl (lv_at hl 2 rfl) ?_
                refine z_cSi (D := (dC, dI)) (cl := vwCl) (tys := zt ca) (nw := zw_nest) (As := [.int x80, .int x4]) (rest := []) ⟨hx, hb, hml, hown, hts⟩ (m_L_below l dC dI ca (fun H => zT dC dI ca sf (ad 0) (ad2 0) H ∧ zW dC dI ca ad M17 H ∧ zW dC dI ca ad2 zMi H) x80 x4 (by rw [enb]; exact q_nI_nz (by omega) (by omega))) (cwS 2 hts gL_of_L_below rfl rfl rfl (by decide +kernel) ⟨Nat.le_of_ble_eq_true rfl, Nat.le_of_ble_eq_true rfl⟩) ⟨hT, hH, hG⟩ hK hN zw_nest_ok rfl hl.1 rfl (Nat.le_of_ble_eq_true rfl) dL_of_160 ⟨Nat.le_refl _, Nat.le_refl _⟩ hS (fun _ h => h.elim) (fun H locs hB1 oq1 hz1 hS => ?_)
                obtain ⟨hT, hH, hG⟩ := hB1
                refine lv_topi (fun x82 ex82 => ?_)
                obtain ⟨k83, hk83, ek83⟩ : ∃ k, k < nb ∧ x82 = nI k := by rw [ex82]; exact q_belowI _ (by omega) (by omega) enb
                refine lv_istore (lv' := [(5, .int x82), (0, .ref b), (1, .ref sf), (2, .int x4), (3, .int v11), (4, .int i15)]) hx hb dL_of_163 hl (by decide) rfl (fun ls hl => ?_)
                refine lv_aload_n hx hb dL_of_165 rfl (lv_at hl 2 rfl) ?_
                refine lv_iload hx hb dL_of_166 (lv_at hl 0 rfl) ?_
                refine lv_iload hx hb dL_of_168 (lv_at hl 0 rfl) ?_
                refine lv_iconst (v := 1) hx hb dL_of_170 (by decide) ?_
                refine lv_iadd hx hb dL_of_171 ?_
                refine lv_topi (fun x84 ex84 => ?_)
                refine lv_aload_n hx hb dL_of_172 rfl (lv_at hl 1 rfl) ?_
                refine lv_bipush (v := 7) hx hb dL_of_173 (by decide) ?_
                refine z_cXp (As := [.ref b, .int 7]) (rest := [.int x84, .int x82, .ref sf]) ⟨hx, hb, hml, hown, hts⟩ (m_L_cell l b L hL xs (fun H => zT dC dI ca sf (ad 0) (ad2 0) H ∧ zW dC dI ca ad M17 H ∧ zW dC dI ca ad2 zMi H) 7 (by decide)) (cwS 2 hts gL_of_L_cell rfl rfl rfl (by decide +kernel) ⟨Nat.le_of_ble_eq_true rfl, Nat.le_of_ble_eq_true rfl⟩) hX hbl hbA ⟨hT, hH, hG⟩ rfl hl.1 rfl (Nat.le_of_ble_eq_true rfl) dL_of_175 ⟨Nat.le_refl _, Nat.le_refl _⟩ hS (fun _ h => h.elim) (fun x85 _ H locs hB1 oq1 hz1 hS => ?_)
                obtain ⟨hT, hH, hG⟩ := hB1
                refine lv_iconst (v := 2) hx hb dL_of_178 (by decide) ?_
                refine lv_iload hx hb dL_of_179 (lv_at hl 5 rfl) ?_
                refine lv_imul hx hb dL_of_181 ?_
                refine lv_topi (fun x86 ex86 => ?_)
                refine lv_ishr hx hb dL_of_182 ?_
                refine lv_topi (fun x87 ex87 => ?_)
                refine lv_iload_n hx hb dL_of_183 rfl (lv_at hl 3 rfl) ?_
                refine lv_iconst (v := 1) hx hb dL_of_184 (by decide) ?_
                refine lv_isub hx hb dL_of_185 ?_
                refine lv_topi (fun x88 ex88 => ?_)
                have hnb2 : 2 ≤ nb := by omega
                have Ex88 : x88 = nI (nb - 1) := by rw [ex88, enb]; exact q_pred (by omega)
                refine z_cSi (D := (dC, dI)) (cl := vwCl) (tys := zt ca) (nw := zw_nest) (As := [.int x87, .int x88]) (rest := [.int x84, .int x82, .ref sf]) ⟨hx, hb, hml, hown, hts⟩ (m_L_below l dC dI ca (fun H => zT dC dI ca sf (ad 0) (ad2 0) H ∧ zW dC dI ca ad M17 H ∧ zW dC dI ca ad2 zMi H) x87 x88 (by rw [Ex88]; exact q_nI_nz (by omega) (by omega))) (cwS 2 hts gL_of_L_below rfl rfl rfl (by decide +kernel) ⟨Nat.le_of_ble_eq_true rfl, Nat.le_of_ble_eq_true rfl⟩) ⟨hT, hH, hG⟩ hK hN zw_nest_ok rfl hl.1 rfl (Nat.le_of_ble_eq_true rfl) dL_of_186 ⟨Nat.le_refl _, Nat.le_refl _⟩ hS (fun _ h => h.elim) (fun H locs hB1 oq1 hz1 hS => ?_)
                obtain ⟨hT, hH, hG⟩ := hB1
                refine lv_topi (fun x90 ex90 => ?_)
                obtain ⟨k91, hk91, ek91⟩ : ∃ k, k < (nb - 1) ∧ x90 = nI k := by rw [ex90]; exact q_belowI _ (by omega) (by omega) Ex88
                refine lv_iadd hx hb dL_of_189 ?_
                refine lv_topi (fun x92 ex92 => ?_)
                refine lv_iload_n hx hb dL_of_190 rfl (lv_at hl 3 rfl) ?_
                refine lv_irem hx hb dL_of_191 (by rw [enb]; exact q_nI_nz (by omega) (by omega)) ?_
                refine lv_topi (fun x93 ex93 => ?_)
                obtain ⟨k94, hk94, nk94, ek94⟩ : ∃ k, k < nb ∧ k ≠ k83 ∧ x93 = nI k := by rw [ex93, ex92, ex84, ek83, ek91, enb]; exact q_other hk83 hk91 (by omega) (by omega)
                refine lv_iconst (v := 1) hx hb dL_of_192 (by decide) ?_
                refine lv_aload_n hx hb dL_of_193 rfl (lv_at hl 1 rfl) ?_
                refine lv_bipush (v := 8) hx hb dL_of_194 (by decide) ?_
                refine z_cXp (As := [.ref b, .int 8]) (rest := [.int 1, .int x93, .int x82, .ref sf]) ⟨hx, hb, hml, hown, hts⟩ (m_L_cell l b L hL xs (fun H => zT dC dI ca sf (ad 0) (ad2 0) H ∧ zW dC dI ca ad M17 H ∧ zW dC dI ca ad2 zMi H) 8 (by decide)) (cwS 2 hts gL_of_L_cell rfl rfl rfl (by decide +kernel) ⟨Nat.le_of_ble_eq_true rfl, Nat.le_of_ble_eq_true rfl⟩) hX hbl hbA ⟨hT, hH, hG⟩ rfl hl.1 rfl (Nat.le_of_ble_eq_true rfl) dL_of_196 ⟨Nat.le_refl _, Nat.le_refl _⟩ hS (fun _ h => h.elim) (fun x95 _ H locs hB1 oq1 hz1 hS => ?_)
                obtain ⟨hT, hH, hG⟩ := hB1
                refine lv_iload hx hb dL_of_199 (lv_at hl 5 rfl) ?_
                refine lv_ishr hx hb dL_of_201 ?_
                refine lv_topi (fun x96 ex96 => ?_)
                refine lv_bipush (v := 9) hx hb dL_of_202 (by decide) ?_
                refine z_cSi (D := (dC, dI)) (cl := vwCl) (tys := zt ca) (nw := zw_nest) (As := [.int x96, .int 9]) (rest := [.int 1, .int x93, .int x82, .ref sf]) ⟨hx, hb, hml, hown, hts⟩ (m_L_below l dC dI ca (fun H => zT dC dI ca sf (ad 0) (ad2 0) H ∧ zW dC dI ca ad M17 H ∧ zW dC dI ca ad2 zMi H) x96 9 (by decide)) (cwS 2 hts gL_of_L_below rfl rfl rfl (by decide +kernel) ⟨Nat.le_of_ble_eq_true rfl, Nat.le_of_ble_eq_true rfl⟩) ⟨hT, hH, hG⟩ hK hN zw_nest_ok rfl hl.1 rfl (Nat.le_of_ble_eq_true rfl) dL_of_204 ⟨Nat.le_refl _, Nat.le_refl _⟩ hS (fun _ h => h.elim) (fun H locs hB1 oq1 hz1 hS => ?_)
                obtain ⟨hT, hH, hG⟩ := hB1
                refine lv_topi (fun x98 ex98 => ?_)
                have gx98 : 0 ≤ x98.toInt ∧ x98.toInt < 9 := by rw [ex98]; exact q_belowL 9 rfl (by decide)
                refine lv_iadd hx hb dL_of_207 ?_
                refine lv_topi (fun x99 ex99 => ?_)
                refine z_cVi (D := (dC, dI)) (cl := vwCl) (tys := zt ca) (nw := zw_nest) (C := RX8) (As := [.int x82, .int x93, .int x99]) (rest := []) ⟨hx, hb, hml, hown, hts⟩ (m_X8_face l dC dI ca sf ad hI ad2 hI2 hq M17 zMi x82 x93 x99 hOk (by rw [vk14.k10, ek83]; exact q_ixk hk83 (by omega)) (by rw [vk14.k10, ek94]; exact q_ixk hk94 (by omega)) (by rw [ek83, ek94]; exact q_nI_ne (by omega) (by omega) (by omega)) (q_rgk 1 9 rfl rfl (by rw [ex99, q_addc 1 rfl (by decide) (by decide) (by omega)]; omega) (by rw [ex99, q_addc 1 rfl (by decide) (by decide) (by omega)]; omega)) (by rw [vk14.k11]; omega)) (cwV 3 hts gL_of_X8_face rfl rfl rfl (by decide +kernel) ⟨Nat.le_of_ble_eq_true rfl, Nat.le_of_ble_eq_true rfl⟩) (z_recv (ci := 8) (i := 0) hK hT rfl (by decide) rfl) ⟨hT, hH, hG⟩ hK hN zw_nest_ok rfl hl.1 rfl (Nat.le_of_ble_eq_true rfl) dL_of_208 ⟨Nat.le_refl _, Nat.le_refl _⟩ hS hAA (fun H locs hB1 oq1 hz1 hS => ?_)
                obtain ⟨hT, hH, hG⟩ := hB1
                refine lv_topi (fun x100 ex100 => ?_)
                obtain ⟨M101, hM101⟩ : ∃ z : zM, z = fX8_face M17 zMi x82 x93 x99 := ⟨_, rfl⟩
                have hH : z_H (dC, dI) vwCl zf ca zd ad M101 H := by rw [hM101]; exact hH
                refine lv_pop hx hb dL_of_211 rfl ?_
                obtain ⟨x102, ex102⟩ : ∃ z : Int32, z = i15 + 1 := ⟨_, rfl⟩
                refine lv_iinc (v := x102) (lv' := [(4, .int x102), (5, .int x82), (0, .ref b), (1, .ref sf), (2, .int x4), (3, .int v11)]) hx hb dL_of_212 hl (k := 5) rfl (by rw [ex102]; rfl) (by decide) rfl (fun ls hl => ?_)
                refine lv_goto (tgt := 144) hx hb dL_of_215 (by decide) ?_
                exact ihk14 (k14 + 1) hkk14 (by omega) M101 (by rw [hM101]; exact vk14.face _ (by omega) (by rw [ek83]; exact q_ixk hk83 (by omega)) (by rw [ek94]; exact q_ixk hk94 (by omega)) (by rw [ek83, ek94]; exact q_nI_ne (by omega) (by omega) (by omega)) (q_rgk 1 9 rfl rfl (by rw [ex99, q_addc 1 rfl (by decide) (by decide) (by omega)]; omega) (by rw [ex99, q_addc 1 rfl (by decide) (by decide) (by omega)]; omega))) x102 (z_nx ei15 ex102) ls (lv_sub hl [2, 3, 4, 5, 0] rfl) _ _ hT hH hG hS
          exact L18 (nf + 1) 0 (Nat.zero_le _) (by omega) M8 (vk5) _ rfl ls (lv_sub hl [2, 3, 4, 1, 0] rfl) H locs hT hH hG hS
        refine lv_icmp_ge (tgt := 129) hx hb dL_of_122 (by decide) (fun c103 => ?_) (fun c103 => ?_)
        · refine lv_aload_n hx hb dL_of_129 rfl (lv_at hl 0 rfl) ?_
          refine lv_bipush (v := 6) hx hb dL_of_130 (by decide) ?_
          refine z_cXp (As := [.ref b, .int 6]) (rest := []) ⟨hx, hb, hml, hown, hts⟩ (m_L_cell l b L hL xs (fun H => zT dC dI ca sf (ad 0) (ad2 0) H ∧ zW dC dI ca ad M8 H ∧ zW dC dI ca ad2 zMi H) 6 (by decide)) (cwS 2 hts gL_of_L_cell rfl rfl rfl (by decide +kernel) ⟨Nat.le_of_ble_eq_true rfl, Nat.le_of_ble_eq_true rfl⟩) hX hbl hbA ⟨hT, hH, hG⟩ rfl hl.1 rfl (Nat.le_of_ble_eq_true rfl) dL_of_132 ⟨Nat.le_refl _, Nat.le_refl _⟩ hS (fun _ h => h.elim) (fun x104 _ H locs hB1 oq1 hz1 hS => ?_)
          obtain ⟨hT, hH, hG⟩ := hB1
          refine lv_bipush (v := 7) hx hb dL_of_135 (by decide) ?_
          refine z_cSi (D := (dC, dI)) (cl := vwCl) (tys := zt ca) (nw := zw_nest) (As := [.int x104, .int 7]) (rest := []) ⟨hx, hb, hml, hown, hts⟩ (m_L_below l dC dI ca (fun H => zT dC dI ca sf (ad 0) (ad2 0) H ∧ zW dC dI ca ad M8 H ∧ zW dC dI ca ad2 zMi H) x104 7 (by decide)) (cwS 2 hts gL_of_L_below rfl rfl rfl (by decide +kernel) ⟨Nat.le_of_ble_eq_true rfl, Nat.le_of_ble_eq_true rfl⟩) ⟨hT, hH, hG⟩ hK hN zw_nest_ok rfl hl.1 rfl (Nat.le_of_ble_eq_true rfl) dL_of_137 ⟨Nat.le_refl _, Nat.le_refl _⟩ hS (fun _ h => h.elim) (fun H locs hB1 oq1 hz1 hS => ?_)
          obtain ⟨hT, hH, hG⟩ := hB1
          refine lv_topi (fun x106 ex106 => ?_)
          have gx106 : 0 ≤ x106.toInt ∧ x106.toInt < 7 := by rw [ex106]; exact q_belowL 7 rfl (by decide)
          exact J12 x106 (by obtain ⟨k, h1, h2⟩ := q_toK gx106.1 (N := 6) (by omega); exact ⟨k, h1, h2, Or.inr (q_ge2 enb (by omega) c103)⟩) ls (lv_sub hl [0, 1, 2, 3] rfl) H locs hT hH hG hS
        · refine lv_iconst (v := 0) hx hb dL_of_125 (by decide) ?_
          refine lv_goto (tgt := 140) hx hb dL_of_126 (by decide) ?_
          exact J12 0 (⟨0, by omega, rfl, Or.inl rfl⟩) ls (lv_sub hl [0, 1, 2, 3] rfl) H locs hT hH hG hS
      · have hkk5 : k5 < nb := z_lt enb ei6 hk5 (by omega) c10
        refine lv_aload_n hx hb dL_of_27 rfl (lv_at hl 0 rfl) ?_
        refine lv_iconst (v := 1) hx hb dL_of_28 (by decide) ?_
        refine lv_iload_n hx hb dL_of_29 rfl (lv_at hl 3 rfl) ?_
        refine lv_iadd hx hb dL_of_30 ?_
        refine lv_topi (fun x107 ex107 => ?_)
        refine z_cXp (As := [.ref b, .int x107]) (rest := []) ⟨hx, hb, hml, hown, hts⟩ (m_L_cell l b L hL xs (fun H => zT dC dI ca sf (ad 0) (ad2 0) H ∧ zW dC dI ca ad M8 H ∧ zW dC dI ca ad2 zMi H) x107 (q_nn1 (k := k5) ei6 (by omega) ex107)) (cwS 2 hts gL_of_L_cell rfl rfl rfl (by decide +kernel) ⟨Nat.le_of_ble_eq_true rfl, Nat.le_of_ble_eq_true rfl⟩) hX hbl hbA ⟨hT, hH, hG⟩ rfl hl.1 rfl (Nat.le_of_ble_eq_true rfl) dL_of_31 ⟨Nat.le_refl _, Nat.le_refl _⟩ hS (fun _ h => h.elim) (fun x108 _ H locs hB1 oq1 hz1 hS => ?_)
        obtain ⟨hT, hH, hG⟩ := hB1
        refine lv_istore (lv' := [(4, .int x108), (0, .ref b), (1, .ref sf), (2, .int x4), (3, .int i6)]) hx hb dL_of_34 hl (by decide) rfl (fun ls hl => ?_)
        refine lv_aload_n hx hb dL_of_36 rfl (lv_at hl 2 rfl) ?_
        refine lv_bipush (v := 10) hx hb dL_of_37 (by decide) ?_
        refine lv_iload hx hb dL_of_39 (lv_at hl 0 rfl) ?_
        refine lv_bipush (v := 90) hx hb dL_of_41 (by decide) ?_
        refine z_cSi (D := (dC, dI)) (cl := vwCl) (tys := zt ca) (nw := zw_nest) (As := [.int x108, .int 90]) (rest := [.int 10, .ref sf]) ⟨hx, hb, hml, hown, hts⟩ (m_L_below l dC dI ca (fun H => zT dC dI ca sf (ad 0) (ad2 0) H ∧ zW dC dI ca ad M8 H ∧ zW dC dI ca ad2 zMi H) x108 90 (by decide)) (cwS 2 hts gL_of_L_below rfl rfl rfl (by decide +kernel) ⟨Nat.le_of_ble_eq_true rfl, Nat.le_of_ble_eq_true rfl⟩) ⟨hT, hH, hG⟩ hK hN zw_nest_ok rfl hl.1 rfl (Nat.le_of_ble_eq_true rfl) dL_of_43 ⟨Nat.le_refl _, Nat.le_refl _⟩ hS (fun _ h => h.elim) (fun H locs hB1 oq1 hz1 hS => ?_)
        obtain ⟨hT, hH, hG⟩ := hB1
        refine lv_topi (fun x110 ex110 => ?_)
        have gx110 : 0 ≤ x110.toInt ∧ x110.toInt < 90 := by rw [ex110]; exact q_belowL 90 rfl (by decide)
        refine lv_iadd hx hb dL_of_46 ?_
        refine lv_topi (fun x111 ex111 => ?_)
        refine lv_iload hx hb dL_of_47 (lv_at hl 0 rfl) ?_
        refine lv_iconst (v := 3) hx hb dL_of_49 (by decide) ?_
        refine lv_ishr hx hb dL_of_50 ?_
        refine lv_topi (fun x112 ex112 => ?_)
        refine lv_iconst (v := 2) hx hb dL_of_51 (by decide) ?_
        refine z_cSi (D := (dC, dI)) (cl := vwCl) (tys := zt ca) (nw := zw_nest) (As := [.int x112, .int 2]) (rest := [.int x111, .ref sf]) ⟨hx, hb, hml, hown, hts⟩ (m_L_below l dC dI ca (fun H => zT dC dI ca sf (ad 0) (ad2 0) H ∧ zW dC dI ca ad M8 H ∧ zW dC dI ca ad2 zMi H) x112 2 (by decide)) (cwS 2 hts gL_of_L_below rfl rfl rfl (by decide +kernel) ⟨Nat.le_of_ble_eq_true rfl, Nat.le_of_ble_eq_true rfl⟩) ⟨hT, hH, hG⟩ hK hN zw_nest_ok rfl hl.1 rfl (Nat.le_of_ble_eq_true rfl) dL_of_52 ⟨Nat.le_refl _, Nat.le_refl _⟩ hS (fun _ h => h.elim) (fun H locs hB1 oq1 hz1 hS => ?_)
        obtain ⟨hT, hH, hG⟩ := hB1
        refine lv_topi (fun x114 ex114 => ?_)
        have gx114 : 0 ≤ x114.toInt ∧ x114.toInt < 2 := by rw [ex114]; exact q_belowL 2 rfl (by decide)
        refine lv_iload hx hb dL_of_55 (lv_at hl 0 rfl) ?_
        refine lv_iconst (v := 5) hx hb dL_of_57 (by decide) ?_
        refine lv_ishr hx hb dL_of_58 ?_
        refine lv_topi (fun x115 ex115 => ?_)
        refine lv_sipush (v := 2001) hx hb dL_of_59 (by decide) ?_
        refine z_cSi (D := (dC, dI)) (cl := vwCl) (tys := zt ca) (nw := zw_nest) (As := [.int x115, .int 2001]) (rest := [.int x114, .int x111, .ref sf]) ⟨hx, hb, hml, hown, hts⟩ (m_L_below l dC dI ca (fun H => zT dC dI ca sf (ad 0) (ad2 0) H ∧ zW dC dI ca ad M8 H ∧ zW dC dI ca ad2 zMi H) x115 2001 (by decide)) (cwS 2 hts gL_of_L_below rfl rfl rfl (by decide +kernel) ⟨Nat.le_of_ble_eq_true rfl, Nat.le_of_ble_eq_true rfl⟩) ⟨hT, hH, hG⟩ hK hN zw_nest_ok rfl hl.1 rfl (Nat.le_of_ble_eq_true rfl) dL_of_62 ⟨Nat.le_refl _, Nat.le_refl _⟩ hS (fun _ h => h.elim) (fun H locs hB1 oq1 hz1 hS => ?_)
        obtain ⟨hT, hH, hG⟩ := hB1
        refine lv_topi (fun x117 ex117 => ?_)
        have gx117 : 0 ≤ x117.toInt ∧ x117.toInt < 2001 := by rw [ex117]; exact q_belowL 2001 rfl (by decide)
        refine lv_iload hx hb dL_of_65 (lv_at hl 0 rfl) ?_
        refine lv_iconst (v := 4) hx hb dL_of_67 (by decide) ?_
        refine lv_ishr hx hb dL_of_68 ?_
        refine lv_topi (fun x118 ex118 => ?_)
        refine lv_sipush (v := 401) hx hb dL_of_69 (by decide) ?_
        refine z_cSi (D := (dC, dI)) (cl := vwCl) (tys := zt ca) (nw := zw_nest) (As := [.int x118, .int 401]) (rest := [.int x117, .int x114, .int x111, .ref sf]) ⟨hx, hb, hml, hown, hts⟩ (m_L_below l dC dI ca (fun H => zT dC dI ca sf (ad 0) (ad2 0) H ∧ zW dC dI ca ad M8 H ∧ zW dC dI ca ad2 zMi H) x118 401 (by decide)) (cwS 2 hts gL_of_L_below rfl rfl rfl (by decide +kernel) ⟨Nat.le_of_ble_eq_true rfl, Nat.le_of_ble_eq_true rfl⟩) ⟨hT, hH, hG⟩ hK hN zw_nest_ok rfl hl.1 rfl (Nat.le_of_ble_eq_true rfl) dL_of_72 ⟨Nat.le_refl _, Nat.le_refl _⟩ hS (fun _ h => h.elim) (fun H locs hB1 oq1 hz1 hS => ?_)
        obtain ⟨hT, hH, hG⟩ := hB1
        refine lv_topi (fun x120 ex120 => ?_)
        have gx120 : 0 ≤ x120.toInt ∧ x120.toInt < 401 := by rw [ex120]; exact q_belowL 401 rfl (by decide)
        refine lv_iload hx hb dL_of_75 (lv_at hl 0 rfl) ?_
        refine lv_bipush (v := 6) hx hb dL_of_77 (by decide) ?_
        refine lv_ishr hx hb dL_of_79 ?_
        refine lv_topi (fun x121 ex121 => ?_)
        refine lv_iconst (v := 3) hx hb dL_of_80 (by decide) ?_
        refine z_cSi (D := (dC, dI)) (cl := vwCl) (tys := zt ca) (nw := zw_nest) (As := [.int x121, .int 3]) (rest := [.int x120, .int x117, .int x114, .int x111, .ref sf]) ⟨hx, hb, hml, hown, hts⟩ (m_L_below l dC dI ca (fun H => zT dC dI ca sf (ad 0) (ad2 0) H ∧ zW dC dI ca ad M8 H ∧ zW dC dI ca ad2 zMi H) x121 3 (by decide)) (cwS 2 hts gL_of_L_below rfl rfl rfl (by decide +kernel) ⟨Nat.le_of_ble_eq_true rfl, Nat.le_of_ble_eq_true rfl⟩) ⟨hT, hH, hG⟩ hK hN zw_nest_ok rfl hl.1 rfl (Nat.le_of_ble_eq_true rfl) dL_of_81 ⟨Nat.le_refl _, Nat.le_refl _⟩ hS (fun _ h => h.elim) (fun H locs hB1 oq1 hz1 hS => ?_)
        obtain ⟨hT, hH, hG⟩ := hB1
        refine lv_topi (fun x123 ex123 => ?_)
        have gx123 : 0 ≤ x123.toInt ∧ x123.toInt < 3 := by rw [ex123]; exact q_belowL 3 rfl (by decide)
        have J125 : ∀ v124 : Int32, (0 ≤ v124.toInt ∧ v124.toInt ≤ 9999) → ∀ ls : Array Slot, lv_has ls 7 [(4, .int x108), (0, .ref b), (1, .ref sf), (2, .int x4), (3, .int i6)] → ∀ (H : Heap) (locs : List Loc), zT dC dI ca sf (ad 0) (ad2 0) H → zW dC dI ca ad M8 H → zW dC dI ca ad2 zMi H → va_S (fun q => sz ≤ q) s.heap H locs → W p l e (headSpec wsL_of ({ frames := 5, cells := 103, slots := 522, locals := 94 })).room s m ([.ref b] : List Value).toArray below meth c H locs 103 522 (MQ below (z_Qf dC dI ca sz (fun q => sz ≤ q)) ([.ref b] : List Value).toArray s 103 522 (fun q => sz ≤ q)) (F0 m 110 ls [.int v124, .int x120, .int x117, .int x114, .int x111, .ref sf]) := by
          intro v124 p126 ls hl H locs hT hH hG hS
          refine z_cVi (D := (dC, dI)) (cl := vwCl) (tys := zt ca) (nw := zw_nest) (C := RX8) (As := [.int x111, .int x114, .int x117, .int x120, .int v124]) (rest := []) ⟨hx, hb, hml, hown, hts⟩ (m_X8_block l dC dI ca sf ad hI ad2 hI2 hq M8 zMi x111 x114 x117 x120 v124 hOk (q_rgk 10 99 rfl rfl (by rw [ex111, q_addc 10 rfl (by decide) (by decide) (by omega)]; omega) (by rw [ex111, q_addc 10 rfl (by decide) (by decide) (by omega)]; omega)) (q_rgk 0 1 rfl rfl (by omega) (by omega)) (q_rgk 0 2000 rfl rfl (by omega) (by omega)) (q_rgk 0 400 rfl rfl (by omega) (by omega)) (q_rgk 0 9999 rfl rfl (by omega) (by omega)) (by rw [vk5.k10]; omega)) (cwV 5 hts gL_of_X8_block rfl rfl rfl (by decide +kernel) ⟨Nat.le_of_ble_eq_true rfl, Nat.le_of_ble_eq_true rfl⟩) (z_recv (ci := 8) (i := 0) hK hT rfl (by decide) rfl) ⟨hT, hH, hG⟩ hK hN zw_nest_ok rfl hl.1 rfl (Nat.le_of_ble_eq_true rfl) dL_of_110 ⟨Nat.le_refl _, Nat.le_refl _⟩ hS hAA (fun H locs hB1 oq1 hz1 hS => ?_)
          obtain ⟨hT, hH, hG⟩ := hB1
          refine lv_topi (fun x127 ex127 => ?_)
          obtain ⟨M128, hM128⟩ : ∃ z : zM, z = fX8_block M8 zMi x111 x114 x117 x120 v124 := ⟨_, rfl⟩
          have hH : z_H (dC, dI) vwCl zf ca zd ad M128 H := by rw [hM128]; exact hH
          refine lv_pop hx hb dL_of_113 rfl ?_
          obtain ⟨x129, ex129⟩ : ∃ z : Int32, z = i6 + 1 := ⟨_, rfl⟩
          refine lv_iinc (v := x129) (lv' := [(3, .int x129), (4, .int x108), (0, .ref b), (1, .ref sf), (2, .int x4)]) hx hb dL_of_114 hl (k := 4) rfl (by rw [ex129]; rfl) (by decide) rfl (fun ls hl => ?_)
          refine lv_goto (tgt := 22) hx hb dL_of_117 (by decide) ?_
          exact ihk5 (k5 + 1) hkk5 (by omega) M128 (by rw [hM128]; exact vk5.block _ (by omega) (q_rgk 10 99 rfl rfl (by rw [ex111, q_addc 10 rfl (by decide) (by decide) (by omega)]; omega) (by rw [ex111, q_addc 10 rfl (by decide) (by decide) (by omega)]; omega)) (q_rgk 0 1 rfl rfl (by omega) (by omega)) (q_rgk 0 2000 rfl rfl (by omega) (by omega)) (q_rgk 0 400 rfl rfl (by omega) (by omega)) (q_rgk 0 9999 rfl rfl (by omega) (by omega))) x129 (z_nx ei6 ex129) ls (lv_sub hl [2, 3, 4, 0] rfl) _ _ hT hH hG hS
        refine lv_if_ne (tgt := 100) hx hb dL_of_84 (by decide) (fun c130 => ?_) (fun c130 => ?_)
        · refine lv_iload hx hb dL_of_100 (lv_at hl 0 rfl) ?_
          refine lv_iconst (v := 2) hx hb dL_of_102 (by decide) ?_
          refine lv_ishr hx hb dL_of_103 ?_
          refine lv_topi (fun x131 ex131 => ?_)
          refine lv_sipush (v := 300) hx hb dL_of_104 (by decide) ?_
          refine z_cSi (D := (dC, dI)) (cl := vwCl) (tys := zt ca) (nw := zw_nest) (As := [.int x131, .int 300]) (rest := [.int x120, .int x117, .int x114, .int x111, .ref sf]) ⟨hx, hb, hml, hown, hts⟩ (m_L_below l dC dI ca (fun H => zT dC dI ca sf (ad 0) (ad2 0) H ∧ zW dC dI ca ad M8 H ∧ zW dC dI ca ad2 zMi H) x131 300 (by decide)) (cwS 2 hts gL_of_L_below rfl rfl rfl (by decide +kernel) ⟨Nat.le_of_ble_eq_true rfl, Nat.le_of_ble_eq_true rfl⟩) ⟨hT, hH, hG⟩ hK hN zw_nest_ok rfl hl.1 rfl (Nat.le_of_ble_eq_true rfl) dL_of_107 ⟨Nat.le_refl _, Nat.le_refl _⟩ hS (fun _ h => h.elim) (fun H locs hB1 oq1 hz1 hS => ?_)
          obtain ⟨hT, hH, hG⟩ := hB1
          refine lv_topi (fun x133 ex133 => ?_)
          have gx133 : 0 ≤ x133.toInt ∧ x133.toInt < 300 := by rw [ex133]; exact q_belowL 300 rfl (by decide)
          exact J125 x133 (⟨by omega, by omega⟩) ls (lv_sub hl [0, 1, 2, 3, 4] rfl) H locs hT hH hG hS
        · refine lv_iload hx hb dL_of_87 (lv_at hl 0 rfl) ?_
          refine lv_iconst (v := 2) hx hb dL_of_89 (by decide) ?_
          refine lv_ishr hx hb dL_of_90 ?_
          refine lv_topi (fun x134 ex134 => ?_)
          refine lv_sipush (v := 10000) hx hb dL_of_91 (by decide) ?_
          refine z_cSi (D := (dC, dI)) (cl := vwCl) (tys := zt ca) (nw := zw_nest) (As := [.int x134, .int 10000]) (rest := [.int x120, .int x117, .int x114, .int x111, .ref sf]) ⟨hx, hb, hml, hown, hts⟩ (m_L_below l dC dI ca (fun H => zT dC dI ca sf (ad 0) (ad2 0) H ∧ zW dC dI ca ad M8 H ∧ zW dC dI ca ad2 zMi H) x134 10000 (by decide)) (cwS 2 hts gL_of_L_below rfl rfl rfl (by decide +kernel) ⟨Nat.le_of_ble_eq_true rfl, Nat.le_of_ble_eq_true rfl⟩) ⟨hT, hH, hG⟩ hK hN zw_nest_ok rfl hl.1 rfl (Nat.le_of_ble_eq_true rfl) dL_of_94 ⟨Nat.le_refl _, Nat.le_refl _⟩ hS (fun _ h => h.elim) (fun H locs hB1 oq1 hz1 hS => ?_)
          obtain ⟨hT, hH, hG⟩ := hB1
          refine lv_topi (fun x136 ex136 => ?_)
          have gx136 : 0 ≤ x136.toInt ∧ x136.toInt < 10000 := by rw [ex136]; exact q_belowL 10000 rfl (by decide)
          refine lv_goto (tgt := 110) hx hb dL_of_97 (by decide) ?_
          exact J125 x136 (⟨by omega, by omega⟩) ls (lv_sub hl [0, 1, 2, 3, 4] rfl) H locs hT hH hG hS
  exact L9 (nb + 1) 0 (Nat.zero_le _) (by omega) zMi (zOf_0) _ rfl ls (lv_sub hl [3, 2, 1, 0] rfl) H locs hT hH hG hS
