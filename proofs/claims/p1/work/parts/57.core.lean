theorem zad_I {h0 sz : Nat} (h : h0 < sz) : z_I zd (zad h0 sz) := fun i j hi hj e => zad_inj h hi hj e
theorem z_tout25 {x : Int32} (h0 : ¬ x = 0) (h1 : ¬ x = 1) (h2 : ¬ x = 2) (h3 : ¬ x = 3) (h4 : ¬ x = 4) (h5 : ¬ x = 5) (h6 : ¬ x = 6) (h7 : ¬ x = 7) (h8 : ¬ x = 8) (h9 : ¬ x = 9) (h10 : ¬ x = 10) (h11 : ¬ x = 11) (h12 : ¬ x = 12) (h13 : ¬ x = 13) (h14 : ¬ x = 14) (h15 : ¬ x = 15) (h16 : ¬ x = 16) (h17 : ¬ x = 17) (h18 : ¬ x = 18) (h19 : ¬ x = 19) (h20 : ¬ x = 20) (h21 : ¬ x = 21) (h22 : ¬ x = 22) (h23 : ¬ x = 23) (h24 : ¬ x = 24) : x.toInt < 0 ∨ 24 < x.toInt := by
  have g0 : x.toInt ≠ 0 := fun q => h0 (Int32.toInt_inj.mp (by rw [q]; rfl))
  have g1 : x.toInt ≠ 1 := fun q => h1 (Int32.toInt_inj.mp (by rw [q]; rfl))
  have g2 : x.toInt ≠ 2 := fun q => h2 (Int32.toInt_inj.mp (by rw [q]; rfl))
  have g3 : x.toInt ≠ 3 := fun q => h3 (Int32.toInt_inj.mp (by rw [q]; rfl))
  have g4 : x.toInt ≠ 4 := fun q => h4 (Int32.toInt_inj.mp (by rw [q]; rfl))
  have g5 : x.toInt ≠ 5 := fun q => h5 (Int32.toInt_inj.mp (by rw [q]; rfl))
  have g6 : x.toInt ≠ 6 := fun q => h6 (Int32.toInt_inj.mp (by rw [q]; rfl))
  have g7 : x.toInt ≠ 7 := fun q => h7 (Int32.toInt_inj.mp (by rw [q]; rfl))
  have g8 : x.toInt ≠ 8 := fun q => h8 (Int32.toInt_inj.mp (by rw [q]; rfl))
  have g9 : x.toInt ≠ 9 := fun q => h9 (Int32.toInt_inj.mp (by rw [q]; rfl))
  have g10 : x.toInt ≠ 10 := fun q => h10 (Int32.toInt_inj.mp (by rw [q]; rfl))
  have g11 : x.toInt ≠ 11 := fun q => h11 (Int32.toInt_inj.mp (by rw [q]; rfl))
  have g12 : x.toInt ≠ 12 := fun q => h12 (Int32.toInt_inj.mp (by rw [q]; rfl))
  have g13 : x.toInt ≠ 13 := fun q => h13 (Int32.toInt_inj.mp (by rw [q]; rfl))
  have g14 : x.toInt ≠ 14 := fun q => h14 (Int32.toInt_inj.mp (by rw [q]; rfl))
  have g15 : x.toInt ≠ 15 := fun q => h15 (Int32.toInt_inj.mp (by rw [q]; rfl))
  have g16 : x.toInt ≠ 16 := fun q => h16 (Int32.toInt_inj.mp (by rw [q]; rfl))
  have g17 : x.toInt ≠ 17 := fun q => h17 (Int32.toInt_inj.mp (by rw [q]; rfl))
  have g18 : x.toInt ≠ 18 := fun q => h18 (Int32.toInt_inj.mp (by rw [q]; rfl))
  have g19 : x.toInt ≠ 19 := fun q => h19 (Int32.toInt_inj.mp (by rw [q]; rfl))
  have g20 : x.toInt ≠ 20 := fun q => h20 (Int32.toInt_inj.mp (by rw [q]; rfl))
  have g21 : x.toInt ≠ 21 := fun q => h21 (Int32.toInt_inj.mp (by rw [q]; rfl))
  have g22 : x.toInt ≠ 22 := fun q => h22 (Int32.toInt_inj.mp (by rw [q]; rfl))
  have g23 : x.toInt ≠ 23 := fun q => h23 (Int32.toInt_inj.mp (by rw [q]; rfl))
  have g24 : x.toInt ≠ 24 := fun q => h24 (Int32.toInt_inj.mp (by rw [q]; rfl))
  omega
set_option maxHeartbeats 4000000 in
set_option maxRecDepth 100000 in
theorem law_core {p : Program} {e : Env} {s : State} {m : MethodId} {below : List Frame} {meth : Method} {c : Code} {Q : State → Prop} (l : Launch) (hl9 : l.stackTraces = false) {b L : Nat} {xs : Nat → Int32} (hL : L ≤ 6) (dC : Nat → ClassId) (dI : Nat → Nat → Nat) (ca : Nat → ClassId)
    (hx : p.tables.exec = Jvm.exec) (hb : c.code = cL_law) (hml : c.maxLocals = 9) (hown : s.vm.findClass RL = some m.cls) (hts : ∀ w ∈ wsL_law, w.before #[Value.ref b] s = true) (hX : va_X b L xs s s.heap) (hbl : b < s.heap.size) (hK : va_K (dC, dI) vwCl (lt9 ca) s) (hN : z_N zw_nest s) (hXo : zAO s) (hAO : va_AOA .int s) (hEx : zEx9 (fun q => s.heap.size ≤ q) s)
    (hend : ∀ (H : Heap) (ls : Array Slot), W p l e room_1 s m #[Value.ref b] below meth c H [] 656031 7134144 Q (F0 m 1723 ls [.int 1])) : W p l e room_1 s m #[Value.ref b] below meth c s.heap [] 0 0 Q (entryFrame m ([Value.ref b] : List Value).toArray 9) := by
  have hbA : ¬ (fun q => s.heap.size ≤ q) b := Nat.not_le.mpr hbl
  have hS : va_S (fun q => s.heap.size ≤ q) s.heap s.heap [] := va_S.rf
  have hA : ∀ q, s.heap.size ≤ q → (fun q => s.heap.size ≤ q) q := fun _ h => h
  have hK5 : va_K (dC, dI) vwCl (zt ca) s := va_K.sub hK [0, 1, 2, 3, 4] rfl
  have hK9 : va_K (dC, dI) vwCl (yt ca) s := va_K.sub hK [0, 5] rfl
  have hl := lv_entry ([.ref b]) (n := 9) (Nat.le_of_ble_eq_true rfl)
  rw [lg_entry_eq]
  generalize (lg_sl ([.ref b]) ++ List.replicate (9 - (lg_sl ([.ref b])).length) Slot.unset).toArray = ls at hl ⊢
  have hl : lv_has ls 9 [(0, .ref b)] := hl
  obtain ⟨sf, esf⟩ : ∃ z, z = s.heap.size := ⟨_, rfl⟩
  have hT : z_H (dC, dI) vwCl zf ca zSe (zs sf (sf + 1) (sf + 52)) zM0 s.heap := fun i hi => absurd hi (by show ¬ (999 < 200); decide)
  refine z_new (D := (dC, dI)) (cl := vwCl) (fl := zf) (ca := ca) (ad := zs sf (sf + 1) (sf + 52)) (C := RX8) (T := TX8) (N := 2) (ci := 8) (i := 0) hx hb hts inlX8 tyX8 tyX8_ok hown (hts (.classLink RL 8 RX8) (by decide +kernel)) (hts (.instantiable RX8 2) (by decide +kernel)) (hts (.initialized RX8) (by decide +kernel)) hK5 hT hS hA rfl (by decide) esf (fun _ => rfl) (fun _ => rfl) (z_born 8 tyX8 2 (by decide)) (Nat.le_of_ble_eq_true rfl) (Nat.le_of_ble_eq_true rfl) dL_law_0 (fun H hT z1 o1 hS => ?_)
  have hz : H.size = sf + 1 := by omega
  refine lv_dup hx hb dL_law_3 rfl ?_
  refine z_cIP (D := (dC, dI)) (cl := vwCl) (tys := zt ca) (nw := zw_nest) (As := []) (rest := [.ref sf]) ⟨hx, hb, hml, hown, hts⟩ (m_X8_init l dC dI ca sf (sf + 1) (Nat.lt_succ_self _)) (cwI 0 hts gL_law_X8_init rfl rfl rfl (hts (.initialized RX8) (by decide +kernel)) (hts (.methodLink RL 86 yX8_init) (by decide +kernel)) (hts (.instanceMethod yX8_init) (by decide +kernel)) rfl (by decide +kernel) ⟨Nat.le_of_ble_eq_true rfl, Nat.le_of_ble_eq_true rfl⟩) ⟨hz, hT⟩ hK5 hN hXo zw_nest_ok rfl hl.1 rfl (Nat.le_of_ble_eq_true rfl) dL_law_4 ⟨Nat.le_of_ble_eq_true rfl, Nat.le_of_ble_eq_true rfl⟩ hS (by rintro q (h9 | h9) <;> (show s.heap.size ≤ q) <;> omega) (fun H locs hB1 oq1 hz1 hS => ?_)
  obtain ⟨hz, hT, hC1, hC2⟩ := hB1
  have hz : H.size = sf + 103 := by omega
  obtain ⟨ad, ead⟩ : ∃ z, z = zad (sf + 1) (sf + 2) := ⟨_, rfl⟩
  obtain ⟨ad2, ead2⟩ : ∃ z, z = zad (sf + 52) (sf + 53) := ⟨_, rfl⟩
  have hT : zT dC dI ca sf (ad 0) (ad2 0) H := by rw [ead, ead2]; exact hT
  have hC1 : zW dC dI ca ad zMi H := by rw [ead]; exact hC1
  have hC2 : zW dC dI ca ad2 zMi H := by rw [ead2]; exact hC2
  have hI : z_I zd ad := by rw [ead]; exact zad_I (Nat.lt_succ_self _)
  have hI2 : z_I zd ad2 := by rw [ead2]; exact zad_I (Nat.lt_succ_self _)
  have r1 : ∀ i, zk i < 200 → sf + 1 ≤ ad i ∧ ad i < sf + 52 := fun i hi => by have h1 := zad_cs (h0 := sf + 1) (sz := sf + 2) hi; rw [ead]; omega
  have r2 : ∀ i, zk i < 200 → sf + 52 ≤ ad2 i ∧ ad2 i < sf + 103 := fun i hi => by have h1 := zad_cs (h0 := sf + 52) (sz := sf + 53) hi; rw [ead2]; omega
  have hq : zSep sf ad ad2 := ⟨fun i j hi hj => by have h1 := r1 i hi; have h2 := r2 j hj; omega, fun i hi => by have h1 := r1 i hi; omega, fun i hi => by have h1 := r2 i hi; omega⟩
  refine lv_astore_n (lv' := [(1, .ref sf), (0, .ref b)]) hx hb dL_law_7 rfl hl (by decide) rfl (fun ls hl => ?_)
  obtain ⟨mo, emo⟩ : ∃ z, z = H.size := ⟨_, rfl⟩
  have hA2 : ∀ q, zA2 ad ad2 q → s.heap.size ≤ q ∧ q < mo := by
    rintro q (⟨i, hi, rfl⟩ | ⟨i, hi, rfl⟩)
    · have h1 := r1 i hi; omega
    · have h1 := r2 i hi; omega
  refine yo_new (D := (dC, dI)) (cl := vwCl) (C := RX10) (T := TX10) (N := 3) (ci := 10) (a := mo) hx hb hts inlX10 tyX10 tyX10_ok hown (hts (.classLink RL 87 RX10) (by decide +kernel)) (hts (.instantiable RX10 3) (by decide +kernel)) (hts (.initialized RX10) (by decide +kernel)) hK hS rfl emo [.int 0, .null, .long 0] (fun j hj => by rcases (show j = 0 ∨ j = 1 ∨ j = 2 by omega) with h | h | h <;> subst h <;> rfl) (Nat.le_of_ble_eq_true rfl) (Nat.le_of_ble_eq_true rfl) dL_law_8 (fun H hMo z1 o1 hS => ?_)
  have hT := hT.kept (fun i hi => o1 _ (hT.lt hi))
  have hC1 := hC1.kept (fun i hi => o1 _ (hC1.lt hi))
  have hC2 := hC2.kept (fun i hi => o1 _ (hC2.lt hi))
  have hz : H.size = mo + 1 := by omega
  refine lv_dup hx hb dL_law_11 rfl ?_
  refine y_cIPv (D := (dC, dI)) (cl := vwCl) (tys := yt ca) (nw := zw_nest) (As := []) (rest := [.ref mo]) ⟨hx, hb, hml, hown, hts⟩ (m_X10_init l dC dI ca mo (mo + 1) (Nat.lt_succ_self _)) (cwI 0 hts gL_law_X10_init rfl rfl rfl (hts (.initialized RX10) (by decide +kernel)) (hts (.methodLink RL 89 yX10_init) (by decide +kernel)) (hts (.instanceMethod yX10_init) (by decide +kernel)) rfl (by decide +kernel) ⟨Nat.le_of_ble_eq_true rfl, Nat.le_of_ble_eq_true rfl⟩) ⟨hz, hMo⟩ hK9 hN hAO zw_nest_ok rfl hl.1 rfl (Nat.le_of_ble_eq_true rfl) dL_law_12 ⟨Nat.le_of_ble_eq_true rfl, Nat.le_of_ble_eq_true rfl⟩ hS (by rintro q (h9 | h9) <;> (show s.heap.size ≤ q) <;> omega) (fun H locs hB1 oq1 hz1 hS => ?_)
  have hT := hT.kept (fun i hi => oq1 _ (hT.lt hi) (by
    have e0 : i = 0 := by
      by_cases h0 : i = 0
      · exact h0
      · simp [zdS, h0] at hi
    subst e0
    show ¬ (sf = mo ∨ mo + 1 ≤ sf)
    omega))
  have hC1 := hC1.kept (fun i hi => oq1 _ (hC1.lt hi) (by have h1 := r1 i hi; show ¬ (ad i = mo ∨ mo + 1 ≤ ad i); omega))
  have hC2 := hC2.kept (fun i hi => oq1 _ (hC2.lt hi) (by have h1 := r2 i hi; show ¬ (ad2 i = mo ∨ mo + 1 ≤ ad2 i); omega))
  obtain ⟨hz, hMo, hR⟩ := hB1
  obtain ⟨ar, ear⟩ : ∃ z, z = yad (mo + 1) (mo + 1 + 1) := ⟨_, rfl⟩
  have hMo : yMo dC dI mo 0 (ar 0) 0 H := by rw [ear]; exact hMo
  have hR : yW dC dI ca ar (yM 0) H := by rw [ear]; exact hR
  have hIr : z_I yd ar := by rw [ear]; exact yad_I (Nat.lt_succ_self _)
  refine lv_astore_n (lv' := [(2, .ref mo), (1, .ref sf), (0, .ref b)]) hx hb dL_law_15 rfl hl (by decide) rfl (fun ls hl => ?_)
  obtain ⟨ob, eob⟩ : ∃ z, z = H.size := ⟨_, rfl⟩
  have hrb : ∀ i, yd.1 i < 200 → mo < ar i ∧ ar i < ob := fun i hi => by have h1 := yad_lt (a := mo + 1) hi; have h2 := yad_ge (a := mo + 1) i; rw [ear]; omega
  refine lv_iconst (v := 1) hx hb dL_law_16 (by decide) ?_
  refine yo_newl (D := (dC, dI)) (cl := vwCl) (ca := ca) (t0 := 6) (a := ob) (N' := 1) hx hb (hts (.arrayClass .long) (by decide +kernel)) hK rfl hS eob (by decide) (by decide) (by decide) (Nat.le_of_ble_eq_true rfl) (Nat.le_of_ble_eq_true rfl) dL_law_17 (fun H hO z1 o1 hS => ?_)
  have hT := hT.kept (fun i hi => o1 _ (hT.lt hi))
  have hC1 := hC1.kept (fun i hi => o1 _ (hC1.lt hi))
  have hC2 := hC2.kept (fun i hi => o1 _ (hC2.lt hi))
  have hR := hR.kept (fun i hi => o1 _ (hR.lt hi))
  have hMo := va_at.kept hMo (o1 _ (va_at.lt hMo))
  refine lv_astore_n (lv' := [(3, .ref ob), (2, .ref mo), (1, .ref sf), (0, .ref b)]) hx hb dL_law_19 rfl hl (by decide) rfl (fun ls hl => ?_)
  refine lv_iconst (v := 0) hx hb dL_law_20 (by decide) ?_
  refine lv_istore (lv' := [(4, .int 0), (3, .ref ob), (2, .ref mo), (1, .ref sf), (0, .ref b)]) hx hb dL_law_21 hl (by decide) rfl (fun ls hl => ?_)
  have hE : ∀ (H : Heap) (locs : List Loc) (ls : Array Slot), va_S (fun q => s.heap.size ≤ q) s.heap H locs → W p l e room_1 s m #[Value.ref b] below meth c H locs 656031 7134144 Q (F0 m 1722 ls []) := by
    intro H locs ls hS
    refine lv_iconst (v := 1) hx hb dL_law_1722 (by decide) ?_
    refine va_forget hS.2.2 ?_
    exact hend H ls
  refine lv_iload hx hb dL_law_23 (lv_at hl 0 rfl) ?_
  refine lv_aload_n hx hb dL_law_25 rfl (lv_at hl 4 rfl) ?_
  refine va_slen hx hb hX hbl hbA hS dL_law_26 ?_
  refine lv_bipush (v := 6) hx hb dL_law_27 (by decide) ?_
  refine lv_isub hx hb dL_law_29 ?_
  by_cases hL6 : L < 6
  · have h9 : Int32.ofNat L - 6 < 0 := (show ∀ L, L < 6 → Int32.ofNat L - 6 < 0 by decide) L hL6
    refine lv_icmp_gt (tgt := 1722) hx hb dL_law_30 (by decide) (fun _ => ?_) (fun c9 => absurd h9 c9)
    refine W.widen (k := 656031) (n := 7134144) (Nat.le_of_ble_eq_true rfl) (Nat.le_of_ble_eq_true rfl) ?_
    exact hE H _ ls hS
  obtain rfl : L = 6 := by omega
  refine y_num (b := 0) (by decide) ?_
  refine lv_icmp_gt (tgt := 1722) hx hb dL_law_30 (by decide) (fun c9 => absurd c9 (by decide)) (fun _ => ?_)
  have hJ : ∀ (H : Heap) (locs : List Loc) (ls : Array Slot), lv_has ls 9 [(4, .int 0), (3, .ref ob), (2, .ref mo), (1, .ref sf), (0, .ref b)] → va_S (fun q => s.heap.size ≤ q) s.heap H locs → W p l e room_1 s m #[Value.ref b] below meth c H locs 656031 7134144 Q (F0 m 1716 ls []) := by
    intro H locs ls hl hS
    refine lv_iinc (v := 6) (lv' := [(4, .int 6), (3, .ref ob), (2, .ref mo), (1, .ref sf), (0, .ref b)]) hx hb dL_law_1716 hl (k := 0) rfl (by decide) (by decide) rfl (fun ls hl => ?_)
    refine lv_goto (tgt := 23) hx hb dL_law_1719 (by decide) ?_
    refine lv_iload hx hb dL_law_23 (lv_at hl 0 rfl) ?_
    refine lv_aload_n hx hb dL_law_25 rfl (lv_at hl 4 rfl) ?_
    refine va_slen hx hb hX hbl hbA hS dL_law_26 ?_
    refine lv_bipush (v := 6) hx hb dL_law_27 (by decide) ?_
    refine lv_isub hx hb dL_law_29 ?_
    refine y_num (b := 0) (by decide) ?_
    refine lv_icmp_gt (tgt := 1722) hx hb dL_law_30 (by decide) (fun _ => ?_) (fun c9 => absurd c9 (by decide))
    exact hE H locs ls hS
  refine lv_aload_n hx hb dL_law_33 rfl (lv_at hl 4 rfl) ?_
  refine lv_iload hx hb dL_law_34 (lv_at hl 0 rfl) ?_
  refine va_sld hx hb hX hbl hbA hS (show vp_in 0 6 from zx (n := 0) rfl (by decide) (by decide)) dL_law_36 ?_
  refine lv_bipush (v := 31) hx hb dL_law_37 (by decide) ?_
  refine lv_iand hx hb dL_law_39 ?_
  refine lv_topi (fun x4 ex4 => ?_)
  by_cases c0 : x4 = 0
  · refine lv_tableIn (off := 116) (tgt := 156) hx hb dL_law_40 (by rw [c0]; decide) (by rw [c0]; decide) (z_t c0 rfl) (by decide) ?_
    exact la_block l hl9 dC dI ca hx hb hml hown hts hX hbl hK hN hAO hEx sf mo ob ad ad2 ar hI hI2 hq hA2 hIr hrb (by omega) (by omega) H locs ls hl hT hC1 hC2 hMo hR hO hS hJ
  by_cases c1 : x4 = 1
  · refine lv_tableIn (off := 220) (tgt := 260) hx hb dL_law_40 (by rw [c1]; decide) (by rw [c1]; decide) (z_t c1 rfl) (by decide) ?_
    exact la_face l hl9 dC dI ca hx hb hml hown hts hX hbl hK hN hAO hEx sf mo ob ad ad2 ar hI hI2 hq hA2 hIr hrb (by omega) (by omega) H locs ls hl hT hC1 hC2 hMo hR hO hS hJ
  by_cases c2 : x4 = 2
  · refine lv_tableIn (off := 300) (tgt := 340) hx hb dL_law_40 (by rw [c2]; decide) (by rw [c2]; decide) (z_t c2 rfl) (by decide) ?_
    exact la_well l hl9 dC dI ca hx hb hml hown hts hX hbl hK hN hAO hEx sf mo ob ad ad2 ar hI hI2 hq hA2 hIr hrb (by omega) (by omega) H locs ls hl hT hC1 hC2 hMo hR hO hS hJ
  by_cases c3 : x4 = 3
  · refine lv_tableIn (off := 384) (tgt := 424) hx hb dL_law_40 (by rw [c3]; decide) (by rw [c3]; decide) (z_t c3 rfl) (by decide) ?_
    exact la_spring l hl9 dC dI ca hx hb hml hown hts hX hbl hK hN hAO hEx sf mo ob ad ad2 ar hI hI2 hq hA2 hIr hrb (by omega) (by omega) H locs ls hl hT hC1 hC2 hMo hR hO hS hJ
  by_cases c4 : x4 = 4
  · refine lv_tableIn (off := 464) (tgt := 504) hx hb dL_law_40 (by rw [c4]; decide) (by rw [c4]; decide) (z_t c4 rfl) (by decide) ?_
    exact la_valve l hl9 dC dI ca hx hb hml hown hts hX hbl hK hN hAO hEx sf mo ob ad ad2 ar hI hI2 hq hA2 hIr hrb (by omega) (by omega) H locs ls hl hT hC1 hC2 hMo hR hO hS hJ
  by_cases c5 : x4 = 5
  · refine lv_tableIn (off := 532) (tgt := 572) hx hb dL_law_40 (by rw [c5]; decide) (by rw [c5]; decide) (z_t c5 rfl) (by decide) ?_
    exact la_trace l hl9 dC dI ca hx hb hml hown hts hX hbl hK hN hAO hEx sf mo ob ad ad2 ar hI hI2 hq hA2 hIr hrb (by omega) (by omega) H locs ls hl hT hC1 hC2 hMo hR hO hS hJ
  by_cases c6 : x4 = 6
  · refine lv_tableIn (off := 600) (tgt := 640) hx hb dL_law_40 (by rw [c6]; decide) (by rw [c6]; decide) (z_t c6 rfl) (by decide) ?_
    exact la_clean l hl9 dC dI ca hx hb hml hown hts hX hbl hK hN hAO hEx sf mo ob ad ad2 ar hI hI2 hq hA2 hIr hrb (by omega) (by omega) H locs ls hl hT hC1 hC2 hMo hR hO hS hJ
  by_cases c7 : x4 = 7
  · refine lv_tableIn (off := 656) (tgt := 696) hx hb dL_law_40 (by rw [c7]; decide) (by rw [c7]; decide) (z_t c7 rfl) (by decide) ?_
    exact la_turbine l hl9 dC dI ca hx hb hml hown hts hX hbl hK hN hAO hEx sf mo ob ad ad2 ar hI hI2 hq hA2 hIr hrb (by omega) (by omega) H locs ls hl hT hC1 hC2 hMo hR hO hS hJ
  by_cases c8 : x4 = 8
  · refine lv_tableIn (off := 712) (tgt := 752) hx hb dL_law_40 (by rw [c8]; decide) (by rw [c8]; decide) (z_t c8 rfl) (by decide) ?_
    exact la_town l hl9 dC dI ca hx hb hml hown hts hX hbl hK hN hAO hEx sf mo ob ad ad2 ar hI hI2 hq hA2 hIr hrb (by omega) (by omega) H locs ls hl hT hC1 hC2 hMo hR hO hS hJ
  by_cases c9 : x4 = 9
  · refine lv_tableIn (off := 768) (tgt := 808) hx hb dL_law_40 (by rw [c9]; decide) (by rw [c9]; decide) (z_t c9 rfl) (by decide) ?_
    exact la_run l hl9 dC dI ca hx hb hml hown hts hX hbl hK hN hAO hEx sf mo ob ad ad2 ar hI hI2 hq hA2 hIr hrb (by omega) (by omega) H locs ls hl hT hC1 hC2 hMo hR hO hS hJ
  by_cases c10 : x4 = 10
  · refine lv_tableIn (off := 824) (tgt := 864) hx hb dL_law_40 (by rw [c10]; decide) (by rw [c10]; decide) (z_t c10 rfl) (by decide) ?_
    exact la_ofBlock l hl9 dC dI ca hx hb hml hown hts hX hbl hK hN hAO hEx sf mo ob ad ad2 ar hI hI2 hq hA2 hIr hrb (by omega) (by omega) H locs ls hl hT hC1 hC2 hMo hR hO hS hJ
  by_cases c11 : x4 = 11
  · refine lv_tableIn (off := 892) (tgt := 932) hx hb dL_law_40 (by rw [c11]; decide) (by rw [c11]; decide) (z_t c11 rfl) (by decide) ?_
    exact la_ofWell l hl9 dC dI ca hx hb hml hown hts hX hbl hK hN hAO hEx sf mo ob ad ad2 ar hI hI2 hq hA2 hIr hrb (by omega) (by omega) H locs ls hl hT hC1 hC2 hMo hR hO hS hJ
  by_cases c12 : x4 = 12
  · refine lv_tableIn (off := 960) (tgt := 1000) hx hb dL_law_40 (by rw [c12]; decide) (by rw [c12]; decide) (z_t c12 rfl) (by decide) ?_
    exact la_ofSpring l hl9 dC dI ca hx hb hml hown hts hX hbl hK hN hAO hEx sf mo ob ad ad2 ar hI hI2 hq hA2 hIr hrb (by omega) (by omega) H locs ls hl hT hC1 hC2 hMo hR hO hS hJ
  by_cases c13 : x4 = 13
  · refine lv_tableIn (off := 1028) (tgt := 1068) hx hb dL_law_40 (by rw [c13]; decide) (by rw [c13]; decide) (z_t c13 rfl) (by decide) ?_
    exact la_ofFace l hl9 dC dI ca hx hb hml hown hts hX hbl hK hN hAO hEx sf mo ob ad ad2 ar hI hI2 hq hA2 hIr hrb (by omega) (by omega) H locs ls hl hT hC1 hC2 hMo hR hO hS hJ
  by_cases c14 : x4 = 14
  · refine lv_tableIn (off := 1112) (tgt := 1152) hx hb dL_law_40 (by rw [c14]; decide) (by rw [c14]; decide) (z_t c14 rfl) (by decide) ?_
    exact la_pond l hl9 dC dI ca hx hb hml hown hts hX hbl hK hN hAO hEx sf mo ob ad ad2 ar hI hI2 hq hA2 hIr hrb (by omega) (by omega) H locs ls hl hT hC1 hC2 hMo hR hO hS hJ
  by_cases c15 : x4 = 15
  · refine lv_tableIn (off := 1168) (tgt := 1208) hx hb dL_law_40 (by rw [c15]; decide) (by rw [c15]; decide) (z_t c15 rfl) (by decide) ?_
    exact la_ofOwner l hl9 dC dI ca hx hb hml hown hts hX hbl hK hN hAO hEx sf mo ob ad ad2 ar hI hI2 hq hA2 hIr hrb (by omega) (by omega) H locs ls hl hT hC1 hC2 hMo hR hO hS hJ
  by_cases c16 : x4 = 16
  · refine lv_tableIn (off := 1236) (tgt := 1276) hx hb dL_law_40 (by rw [c16]; decide) (by rw [c16]; decide) (z_t c16 rfl) (by decide) ?_
    exact la_mass l hl9 dC dI ca hx hb hml hown hts hX hbl hK hN hAO hEx sf mo ob ad ad2 ar hI hI2 hq hA2 hIr hrb (by omega) (by omega) H locs ls hl hT hC1 hC2 hMo hR hO hS hJ
  by_cases c17 : x4 = 17
  · refine lv_tableIn (off := 1292) (tgt := 1332) hx hb dL_law_40 (by rw [c17]; decide) (by rw [c17]; decide) (z_t c17 rfl) (by decide) ?_
    exact la_isClosed l hl9 dC dI ca hx hb hml hown hts hX hbl hK hN hAO hEx sf mo ob ad ad2 ar hI hI2 hq hA2 hIr hrb (by omega) (by omega) H locs ls hl hT hC1 hC2 hMo hR hO hS hJ
  by_cases c18 : x4 = 18
  · refine lv_tableIn (off := 1305) (tgt := 1345) hx hb dL_law_40 (by rw [c18]; decide) (by rw [c18]; decide) (z_t c18 rfl) (by decide) ?_
    exact la_many l hl9 dC dI ca hx hb hml hown hts hX hbl hK hN hAO hEx sf mo ob ad ad2 ar hI hI2 hq hA2 hIr hrb (by omega) (by omega) H locs ls hl hT hC1 hC2 hMo hR hO hS hJ
  by_cases c19 : x4 = 19
  · refine lv_tableIn (off := 1361) (tgt := 1401) hx hb dL_law_40 (by rw [c19]; decide) (by rw [c19]; decide) (z_t c19 rfl) (by decide) ?_
    exact la_meanWarmth l hl9 dC dI ca hx hb hml hown hts hX hbl hK hN hAO hEx sf mo ob ad ad2 ar hI hI2 hq hA2 hIr hrb (by omega) (by omega) H locs ls hl hT hC1 hC2 hMo hR hO hS hJ
  by_cases c20 : x4 = 20
  · refine lv_tableIn (off := 1402) (tgt := 1442) hx hb dL_law_40 (by rw [c20]; decide) (by rw [c20]; decide) (z_t c20 rfl) (by decide) ?_
    exact la_wouldGive l hl9 dC dI ca hx hb hml hown hts hX hbl hK hN hAO hEx sf mo ob ad ad2 ar hI hI2 hq hA2 hIr hrb (by omega) (by omega) H locs ls hl hT hC1 hC2 hMo hR hO hS hJ
  by_cases c21 : x4 = 21
  · refine lv_tableIn (off := 1458) (tgt := 1498) hx hb dL_law_40 (by rw [c21]; decide) (by rw [c21]; decide) (z_t c21 rfl) (by decide) ?_
    exact la_coldIn l hl9 dC dI ca hx hb hml hown hts hX hbl hK hN hAO hEx sf mo ob ad ad2 ar hI hI2 hq hA2 hIr hrb (by omega) (by omega) H locs ls hl hT hC1 hC2 hMo hR hO hS hJ
  by_cases c22 : x4 = 22
  · refine lv_tableIn (off := 1526) (tgt := 1566) hx hb dL_law_40 (by rw [c22]; decide) (by rw [c22]; decide) (z_t c22 rfl) (by decide) ?_
    exact la_causedBy l hl9 dC dI ca hx hb hml hown hts hX hbl hK hN hAO hEx sf mo ob ad ad2 ar hI hI2 hq hA2 hIr hrb (by omega) (by omega) H locs ls hl hT hC1 hC2 hMo hR hO hS hJ
  by_cases c23 : x4 = 23
  · refine lv_tableIn (off := 1606) (tgt := 1646) hx hb dL_law_40 (by rw [c23]; decide) (by rw [c23]; decide) (z_t c23 rfl) (by decide) ?_
    exact la_bestValves l hl9 dC dI ca hx hb hml hown hts hX hbl hK hN hAO hEx sf mo ob ad ad2 ar hI hI2 hq hA2 hIr hrb (by omega) (by omega) H locs ls hl hT hC1 hC2 hMo hR hO hS hJ
  by_cases c24 : x4 = 24
  · refine lv_tableIn (off := 1662) (tgt := 1702) hx hb dL_law_40 (by rw [c24]; decide) (by rw [c24]; decide) (z_t c24 rfl) (by decide) ?_
    exact la_digest l hl9 dC dI ca hx hb hml hown hts hX hbl hK hN hAO hEx sf mo ob ad ad2 ar hI hI2 hq hA2 hIr hrb (by omega) (by omega) H locs ls hl hT hC1 hC2 hMo hR hO hS hJ
  refine lv_tableOut (tgt := 1716) hx hb dL_law_40 (z_tout25 c0 c1 c2 c3 c4 c5 c6 c7 c8 c9 c10 c11 c12 c13 c14 c15 c16 c17 c18 c19 c20 c21 c22 c23 c24) (by decide) ?_
  refine W.widen (k := 656031) (n := 7134144) (Nat.le_of_ble_eq_true rfl) (Nat.le_of_ble_eq_true rfl) ?_
  exact hJ H _ ls hl hS
