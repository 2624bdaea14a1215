set_option maxHeartbeats 4000000 in
set_option maxRecDepth 100000 in
theorem la_isClosed {p : Program} {e : Env} {s : State} {m : MethodId} {below : List Frame} {meth : Method} {c : Code} {Q : State → Prop} (l : Launch) (hl9 : l.stackTraces = false) {b : Nat} {xs : Nat → Int32} (dC : Nat → ClassId) (dI : Nat → Nat → Nat) (ca : Nat → ClassId)
    (hx : p.tables.exec = Jvm.exec) (hb : c.code = cL_law) (hml : c.maxLocals = 9) (hown : s.vm.findClass RL = some m.cls) (hts : ∀ w ∈ wsL_law, w.before #[Value.ref b] s = true) (hX : va_X b 6 xs s s.heap) (hbl : b < s.heap.size) (hK : va_K (dC, dI) vwCl (lt9 ca) s) (hN : z_N zw_nest s) (hAO : va_AOA .int s) (hEx : zEx9 (fun q => s.heap.size ≤ q) s)
    (sf mo ob : Nat) (ad ad2 ar : Nat → Nat) (hI : z_I zd ad) (hI2 : z_I zd ad2) (hq : zSep sf ad ad2) (hA2 : ∀ q, zA2 ad ad2 q → s.heap.size ≤ q ∧ q < mo) (hIr : z_I yd ar) (hrb : ∀ i, yd.1 i < 200 → mo < ar i ∧ ar i < ob) (hmo : s.heap.size ≤ mo) (hob : mo < ob)
    (H : Heap) (locs : List Loc) (ls : Array Slot) (hl : lv_has ls 9 [(4, .int 0), (3, .ref ob), (2, .ref mo), (1, .ref sf), (0, .ref b)]) (hT : zT dC dI ca sf (ad 0) (ad2 0) H) (hC1 : zW dC dI ca ad zMi H) (hC2 : zW dC dI ca ad2 zMi H) (hMo : yMo dC dI mo 0 (ar 0) 0 H) (hR : yW dC dI ca ar (yM 0) H) (hO : yO dC dI ca ob (fun _ => 0) H) (hS : va_S (fun q => s.heap.size ≤ q) s.heap H locs)
    (hJ : ∀ (H : Heap) (locs : List Loc) (ls : Array Slot), lv_has ls 9 [(4, .int 0), (3, .ref ob), (2, .ref mo), (1, .ref sf), (0, .ref b)] → va_S (fun q => s.heap.size ≤ q) s.heap H locs → W p l e room_1 s m #[Value.ref b] below meth c H locs 656031 7134144 Q (F0 m 1716 ls [])) : W p l e room_1 s m #[Value.ref b] below meth c H locs 146 780 Q (F0 m 1332 ls []) := by
  have hbA : ¬ (fun q => s.heap.size ≤ q) b := Nat.not_le.mpr hbl
  have hK5 : va_K (dC, dI) vwCl (zt ca) s := va_K.sub hK [0, 1, 2, 3, 4] rfl
  have hK9 : va_K (dC, dI) vwCl (yt ca) s := va_K.sub hK [0, 5] rfl
  have hmr : ∀ i, yd.1 i < 200 → ar i ≠ mo := fun i hi => by have h1 := hrb i hi; omega
  have hob2 : ¬ zA2 ad ad2 ob := fun h => by have h1 := hA2 _ h; omega
  have hAz : ∀ q, zA2 ad ad2 q → (fun q => s.heap.size ≤ q) q := fun q h => (hA2 q h).1
  have hAo : ∀ q, zAo ad ad2 ob q → (fun q => s.heap.size ≤ q) q := by
    rintro q (h | h)
    · exact (hA2 q h).1
    · rw [h]; show s.heap.size ≤ ob; omega
  have hmoA : ¬ zAo ad ad2 ob mo := by
    rintro (h | h)
    · have h1 := hA2 _ h; omega
    · omega
  have hrA : ∀ i, yd.1 i < 200 → ¬ zAo ad ad2 ob (ar i) := fun i hi => by
    have h2 := hrb i hi
    rintro (h | h)
    · have h1 := hA2 _ h; omega
    · omega
  refine lv_aload_n hx hb dL_law_1332 rfl (lv_at hl 3 rfl) ?_
  refine z_cVi (D := (dC, dI)) (cl := vwCl) (tys := zt ca) (nw := zw_nest) (C := RX8) (As := []) (rest := []) ⟨hx, hb, hml, hown, hts⟩ (m_X8_isClosed l dC dI ca sf ad hI ad2 hI2 hq zMi zMi zOkMi) (cwV 0 hts gL_law_X8_isClosed rfl rfl rfl (by decide +kernel) ⟨Nat.le_of_ble_eq_true rfl, Nat.le_of_ble_eq_true rfl⟩) (z_recv (ci := 8) (i := 0) hK5 hT rfl (by decide) rfl) ⟨hT, hC1, hC2⟩ hK5 hN zw_nest_ok rfl hl.1 rfl (Nat.le_of_ble_eq_true rfl) dL_law_1333 ⟨(by show 146 ≤ 656031; omega), (by show 780 ≤ 7134144; omega)⟩ hS hAz (fun H locs hB1 oq1 hz1 hS => ?_)
  have hMo := va_at.kept hMo (oq1 _ (va_at.lt hMo) (fun h => by have h1 := hA2 _ h; omega))
  have hR := hR.kept (fun i hi => oq1 _ (hR.lt hi) (fun h => by have h1 := hA2 _ h; have h2 := hrb i hi; omega))
  have hO := va_at.kept hO (oq1 _ (va_at.lt hO) hob2)
  refine y_num (b := 1) vX_isClosed ?_
  refine lv_aload_n hx hb dL_law_1336 rfl (lv_at hl 2 rfl) ?_
  refine y_cVi (D := (dC, dI)) (cl := vwCl) (tys := yt ca) (nw := zw_nest) (C := RX10) (As := []) (rest := [.int 1]) ⟨hx, hb, hml, hown, hts⟩ (m_X10_isClosed l dC dI ca mo _ ar hIr hmr 0 0  ) (cwV 0 hts gL_law_X10_isClosed rfl rfl rfl (by decide +kernel) ⟨Nat.le_of_ble_eq_true rfl, Nat.le_of_ble_eq_true rfl⟩) (va_recv hK9 (y_one hMo) (ci := 10) rfl (q0 := 0) rfl) ⟨rfl, hMo, hR⟩ hK9 hN hAO zw_nest_ok rfl hl.1 rfl (Nat.le_of_ble_eq_true rfl) dL_law_1337 ⟨(by show 146 + 7 ≤ 656031; omega), (by show 780 + 49 ≤ 7134144; omega)⟩ hS (yA_law hmo (fun i hi => Nat.le_trans hmo (Nat.le_of_lt (hrb i hi).1)) hS.1) (fun H locs hB1 oq1 hz1 hS => ?_)
  have hO := va_at.kept hO (oq1 _ (va_at.lt hO) (yA_ob hob hrb (va_at.lt hO)))
  obtain ⟨hMo, hR⟩ := hB1
  refine lv_icmp_eq (tgt := 1716) hx hb dL_law_1340 (by decide) (fun _ => ?_) (fun c9 => absurd rfl c9)
  refine W.widen (k := 656031) (n := 7134144) (by show 153 ≤ 656031; omega) (by show 829 ≤ 7134144; omega) ?_
  exact hJ _ _ _ (lv_sub hl [0, 1, 2, 3, 4] rfl) hS
set_option maxHeartbeats 4000000 in
set_option maxRecDepth 100000 in
theorem la_many {p : Program} {e : Env} {s : State} {m : MethodId} {below : List Frame} {meth : Method} {c : Code} {Q : State → Prop} (l : Launch) (hl9 : l.stackTraces = false) {b : Nat} {xs : Nat → Int32} (dC : Nat → ClassId) (dI : Nat → Nat → Nat) (ca : Nat → ClassId)
    (hx : p.tables.exec = Jvm.exec) (hb : c.code = cL_law) (hml : c.maxLocals = 9) (hown : s.vm.findClass RL = some m.cls) (hts : ∀ w ∈ wsL_law, w.before #[Value.ref b] s = true) (hX : va_X b 6 xs s s.heap) (hbl : b < s.heap.size) (hK : va_K (dC, dI) vwCl (lt9 ca) s) (hN : z_N zw_nest s) (hAO : va_AOA .int s) (hEx : zEx9 (fun q => s.heap.size ≤ q) s)
    (sf mo ob : Nat) (ad ad2 ar : Nat → Nat) (hI : z_I zd ad) (hI2 : z_I zd ad2) (hq : zSep sf ad ad2) (hA2 : ∀ q, zA2 ad ad2 q → s.heap.size ≤ q ∧ q < mo) (hIr : z_I yd ar) (hrb : ∀ i, yd.1 i < 200 → mo < ar i ∧ ar i < ob) (hmo : s.heap.size ≤ mo) (hob : mo < ob)
    (H : Heap) (locs : List Loc) (ls : Array Slot) (hl : lv_has ls 9 [(4, .int 0), (3, .ref ob), (2, .ref mo), (1, .ref sf), (0, .ref b)]) (hT : zT dC dI ca sf (ad 0) (ad2 0) H) (hC1 : zW dC dI ca ad zMi H) (hC2 : zW dC dI ca ad2 zMi H) (hMo : yMo dC dI mo 0 (ar 0) 0 H) (hR : yW dC dI ca ar (yM 0) H) (hO : yO dC dI ca ob (fun _ => 0) H) (hS : va_S (fun q => s.heap.size ≤ q) s.heap H locs)
    (hJ : ∀ (H : Heap) (locs : List Loc) (ls : Array Slot), lv_has ls 9 [(4, .int 0), (3, .ref ob), (2, .ref mo), (1, .ref sf), (0, .ref b)] → va_S (fun q => s.heap.size ≤ q) s.heap H locs → W p l e room_1 s m #[Value.ref b] below meth c H locs 656031 7134144 Q (F0 m 1716 ls [])) : W p l e room_1 s m #[Value.ref b] below meth c H locs 146 780 Q (F0 m 1345 ls []) := by
  have hbA : ¬ (fun q => s.heap.size ≤ q) b := Nat.not_le.mpr hbl
  have hK5 : va_K (dC, dI) vwCl (zt ca) s := va_K.sub hK [0, 1, 2, 3, 4] rfl
  have hK9 : va_K (dC, dI) vwCl (yt ca) s := va_K.sub hK [0, 5] rfl
  have hmr : ∀ i, yd.1 i < 200 → ar i ≠ mo := fun i hi => by have h1 := hrb i hi; omega
  have hob2 : ¬ zA2 ad ad2 ob := fun h => by have h1 := hA2 _ h; omega
  have hAz : ∀ q, zA2 ad ad2 q → (fun q => s.heap.size ≤ q) q := fun q h => (hA2 q h).1
  have hAo : ∀ q, zAo ad ad2 ob q → (fun q => s.heap.size ≤ q) q := by
    rintro q (h | h)
    · exact (hA2 q h).1
    · rw [h]; show s.heap.size ≤ ob; omega
  have hmoA : ¬ zAo ad ad2 ob mo := by
    rintro (h | h)
    · have h1 := hA2 _ h; omega
    · omega
  have hrA : ∀ i, yd.1 i < 200 → ¬ zAo ad ad2 ob (ar i) := fun i hi => by
    have h2 := hrb i hi
    rintro (h | h)
    · have h1 := hA2 _ h; omega
    · omega
  by_cases h : z_rg (xs 1) 0 12
  · refine lv_aload_n hx hb dL_law_1345 rfl (lv_at hl 3 rfl) ?_
    refine lv_aload_n hx hb dL_law_1346 rfl (lv_at hl 4 rfl) ?_
    refine lv_iload hx hb dL_law_1347 (lv_at hl 0 rfl) ?_
    refine lv_iconst (v := 1) hx hb dL_law_1349 (by decide) ?_
    refine lv_iadd hx hb dL_law_1350 ?_
    refine y_num (b := 1) (by decide) ?_
    refine va_sld hx hb hX hbl hbA hS (show vp_in 1 6 from zx (n := 1) rfl (by decide) (by decide)) dL_law_1351 ?_
    refine y_num (b := (xs 1)) (show xs 1 = (xs 1) from rfl) ?_
    refine lv_aload_n hx hb dL_law_1352 rfl (lv_at hl 1 rfl) ?_
    refine z_cW (D := (dC, dI)) (cl := vwCl) (tys := lt9 ca) (nw := zw_nest) (av := [.ref sf, .int (xs 1), .ref ob]) (rest := []) ⟨hx, hb, hml, hown, hts⟩ (m_L_manyy l dC dI ca sf ad hI ad2 hI2 hq ob hob2 (fun _ => 0) zMi zMi (xs 1) zOkMi h) (vx_cwSW 3 hts gL_law_L_many rfl rfl rfl (by decide +kernel) ⟨Nat.le_of_ble_eq_true rfl, Nat.le_of_ble_eq_true rfl⟩) ⟨⟨hT, hC1, hC2⟩, hO⟩ hK hN zw_nest_ok rfl hl.1 rfl (Nat.le_of_ble_eq_true rfl) dL_law_1353 ⟨(by show 146 + 0 ≤ 656031; omega), (by show 780 + 0 ≤ 7134144; omega)⟩ hS hAo (fun H locs hB1 oq1 hz1 hS => ?_)
    have hO := hB1
    rw [vX_many h] at hO
    have hMo := va_at.kept hMo (oq1 _ (va_at.lt hMo) hmoA)
    have hR := hR.kept (fun i hi => oq1 _ (hR.lt hi) (hrA i hi))
    refine lv_istore (lv' := [(5, .int 0), (4, .int 0), (3, .ref ob), (2, .ref mo), (1, .ref sf), (0, .ref b)]) hx hb dL_law_1356 hl (by decide) rfl (fun ls hl => ?_)
    refine lv_aload_n hx hb dL_law_1358 rfl (lv_at hl 3 rfl) ?_
    refine lv_aload_n hx hb dL_law_1359 rfl (lv_at hl 5 rfl) ?_
    refine lv_iload hx hb dL_law_1360 (lv_at hl 1 rfl) ?_
    refine lv_iconst (v := 1) hx hb dL_law_1362 (by decide) ?_
    refine lv_iadd hx hb dL_law_1363 ?_
    refine y_num (b := 1) (by decide) ?_
    refine va_sld hx hb hX hbl hbA hS (show vp_in 1 6 from zx (n := 1) rfl (by decide) (by decide)) dL_law_1364 ?_
    refine y_num (b := (xs 1)) (show xs 1 = (xs 1) from rfl) ?_
    refine y_cVi (D := (dC, dI)) (cl := vwCl) (tys := yt ca) (nw := zw_nest) (C := RX10) (As := [.int (xs 1)]) (rest := []) ⟨hx, hb, hml, hown, hts⟩ (m_X10_manyy l dC dI ca mo _ ar hIr hmr 0 0 (xs 1) h) (cwV 1 hts gL_law_X10_many rfl rfl rfl (by decide +kernel) ⟨Nat.le_of_ble_eq_true rfl, Nat.le_of_ble_eq_true rfl⟩) (va_recv hK9 (y_one hMo) (ci := 10) rfl (q0 := 0) rfl) ⟨rfl, hMo, hR⟩ hK9 hN hAO zw_nest_ok rfl hl.1 rfl (Nat.le_of_ble_eq_true rfl) dL_law_1365 ⟨(by show 146 + 1 ≤ 656031; omega), (by show 780 + 13 ≤ 7134144; omega)⟩ hS (yA_law hmo (fun i hi => Nat.le_trans hmo (Nat.le_of_lt (hrb i hi).1)) hS.1) (fun H locs hB1 oq1 hz1 hS => ?_)
    have hO := va_at.kept hO (oq1 _ (va_at.lt hO) (yA_ob hob hrb (va_at.lt hO)))
    obtain ⟨hMo, hR⟩ := hB1
    refine lv_istore (lv' := [(6, .int (yMany (xs 1))), (5, .int 0), (4, .int 0), (3, .ref ob), (2, .ref mo), (1, .ref sf), (0, .ref b)]) hx hb dL_law_1368 hl (by decide) rfl (fun ls hl => ?_)
    refine lv_aload_n hx hb dL_law_1370 rfl (lv_at hl 4 rfl) ?_
    refine y_cVi (D := (dC, dI)) (cl := vwCl) (tys := yt ca) (nw := zw_nest) (C := RX10) (As := []) (rest := []) ⟨hx, hb, hml, hown, hts⟩ (m_X10_thrown0 l dC dI ca mo (ar 0) 0 0) (cwV 0 hts gL_law_X10_thrown rfl rfl rfl (by decide +kernel) ⟨Nat.le_of_ble_eq_true rfl, Nat.le_of_ble_eq_true rfl⟩) (va_recv hK9 (y_one hMo) (ci := 10) rfl (q0 := 0) rfl) hMo hK9 hN hAO zw_nest_ok rfl hl.1 rfl (Nat.le_of_ble_eq_true rfl) dL_law_1371 ⟨(by show 147 + 0 ≤ 656031; omega), (by show 793 + 0 ≤ 7134144; omega)⟩ hS (fun _ h => h.elim) (fun H locs hB1 oq1 hz1 hS => ?_)
    have hO := va_at.kept hO (oq1 _ (va_at.lt hO) (fun h => h))
    refine lv_iload hx hb dL_law_1374 (lv_at hl 1 rfl) ?_
    refine lv_icmp_eq (tgt := 1381) hx hb dL_law_1376 (by decide) (fun _ => ?_) (fun c9 => absurd rfl c9)
    refine lv_iload hx hb dL_law_1381 (lv_at hl 1 rfl) ?_
    refine lv_if_ne (tgt := 1398) hx hb dL_law_1383 (by decide) (fun c9 => absurd c9 (by decide)) (fun _ => ?_)
    refine lv_aload_n hx hb dL_law_1386 rfl (lv_at hl 3 rfl) ?_
    refine lv_iconst (v := 0) hx hb dL_law_1387 (by decide) ?_
    refine va_lald hx hb hK (y_one hO) 0 6 rfl rfl (zx (n := 0) (N := 1) (x := 0) rfl (by decide) (by decide)) dL_law_1388 ?_
    refine y_lng (b := ((yMany (xs 1)) : Int32).toInt64) rfl ?_
    refine lv_iload hx hb dL_law_1389 (lv_at hl 0 rfl) ?_
    refine lv_i2l hx hb dL_law_1391 rfl ?_
    refine W.lcmp hx hb dL_law_1392 ?_
    refine y_num (b := 0) (lg_self _) ?_
    refine lv_if_eq (tgt := 1398) hx hb dL_law_1393 (by decide) (fun _ => ?_) (fun c9 => absurd rfl c9)
    refine lv_goto (tgt := 1716) hx hb dL_law_1398 (by decide) ?_
    refine W.widen (k := 656031) (n := 7134144) (by show 147 ≤ 656031; omega) (by show 793 ≤ 7134144; omega) ?_
    exact hJ _ _ _ (lv_sub hl [2, 3, 4, 5, 6] rfl) hS
  · skip
    refine lv_aload_n hx hb dL_law_1345 rfl (lv_at hl 3 rfl) ?_
    refine lv_aload_n hx hb dL_law_1346 rfl (lv_at hl 4 rfl) ?_
    refine lv_iload hx hb dL_law_1347 (lv_at hl 0 rfl) ?_
    refine lv_iconst (v := 1) hx hb dL_law_1349 (by decide) ?_
    refine lv_iadd hx hb dL_law_1350 ?_
    refine y_num (b := 1) (by decide) ?_
    refine va_sld hx hb hX hbl hbA hS (show vp_in 1 6 from zx (n := 1) rfl (by decide) (by decide)) dL_law_1351 ?_
    refine y_num (b := (xs 1)) (show xs 1 = (xs 1) from rfl) ?_
    refine lv_aload_n hx hb dL_law_1352 rfl (lv_at hl 1 rfl) ?_
    refine z_cWx (D := (dC, dI)) (cl := vwCl) (tys := lt9 ca) (nw := zw_nest) (av := [.ref sf, .int (xs 1), .ref ob]) (rest := []) ⟨hx, hb, hml, hown, hts⟩ (m_L_manyx l hl9 dC dI ca sf ad ad2 ob zMi zMi (xs 1) h) (vx_cwSW 3 hts gL_law_L_many rfl rfl rfl (by decide +kernel) ⟨Nat.le_of_ble_eq_true rfl, Nat.le_of_ble_eq_true rfl⟩) ⟨hT, hC1, hC2⟩ hK hN hEx zw_nest_ok rfl hl.1 rfl (Nat.le_of_ble_eq_true rfl) dL_law_1353 ⟨(by show 146 + 1 ≤ 656031; omega), (by show 780 + 6 ≤ 7134144; omega)⟩ hS (fun H locs oq1 hz1 hS => ?_)
    have hMo := va_at.kept hMo (oq1 _ (va_at.lt hMo))
    have hR := hR.kept (fun i hi => oq1 _ (hR.lt hi))
    have hO := va_at.kept hO (oq1 _ (va_at.lt hO))
    refine lv_istore (lv' := [(5, .int 1), (4, .int 0), (3, .ref ob), (2, .ref mo), (1, .ref sf), (0, .ref b)]) hx hb dL_law_1356 hl (by decide) rfl (fun ls hl => ?_)
    refine lv_aload_n hx hb dL_law_1358 rfl (lv_at hl 3 rfl) ?_
    refine lv_aload_n hx hb dL_law_1359 rfl (lv_at hl 5 rfl) ?_
    refine lv_iload hx hb dL_law_1360 (lv_at hl 1 rfl) ?_
    refine lv_iconst (v := 1) hx hb dL_law_1362 (by decide) ?_
    refine lv_iadd hx hb dL_law_1363 ?_
    refine y_num (b := 1) (by decide) ?_
    refine va_sld hx hb hX hbl hbA hS (show vp_in 1 6 from zx (n := 1) rfl (by decide) (by decide)) dL_law_1364 ?_
    refine y_num (b := (xs 1)) (show xs 1 = (xs 1) from rfl) ?_
    refine y_cVi (D := (dC, dI)) (cl := vwCl) (tys := yt ca) (nw := zw_nest) (C := RX10) (As := [.int (xs 1)]) (rest := []) ⟨hx, hb, hml, hown, hts⟩ (m_X10_manyn l dC dI ca mo _ ar hIr hmr 0 0 (xs 1) h) (cwV 1 hts gL_law_X10_many rfl rfl rfl (by decide +kernel) ⟨Nat.le_of_ble_eq_true rfl, Nat.le_of_ble_eq_true rfl⟩) (va_recv hK9 (y_one hMo) (ci := 10) rfl (q0 := 0) rfl) ⟨rfl, hMo, hR⟩ hK9 hN hAO zw_nest_ok rfl hl.1 rfl (Nat.le_of_ble_eq_true rfl) dL_law_1365 ⟨(by show 147 + 0 ≤ 656031; omega), (by show 786 + 0 ≤ 7134144; omega)⟩ hS (yA_law hmo (fun i hi => Nat.le_trans hmo (Nat.le_of_lt (hrb i hi).1)) hS.1) (fun H locs hB1 oq1 hz1 hS => ?_)
    have hO := va_at.kept hO (oq1 _ (va_at.lt hO) (yA_ob hob hrb (va_at.lt hO)))
    obtain ⟨hMo, hR⟩ := hB1
    refine lv_istore (lv' := [(6, .int 0), (5, .int 1), (4, .int 0), (3, .ref ob), (2, .ref mo), (1, .ref sf), (0, .ref b)]) hx hb dL_law_1368 hl (by decide) rfl (fun ls hl => ?_)
    refine lv_aload_n hx hb dL_law_1370 rfl (lv_at hl 4 rfl) ?_
    refine y_cVi (D := (dC, dI)) (cl := vwCl) (tys := yt ca) (nw := zw_nest) (C := RX10) (As := []) (rest := []) ⟨hx, hb, hml, hown, hts⟩ (m_X10_thrown0 l dC dI ca mo (ar 0) 1 0) (cwV 0 hts gL_law_X10_thrown rfl rfl rfl (by decide +kernel) ⟨Nat.le_of_ble_eq_true rfl, Nat.le_of_ble_eq_true rfl⟩) (va_recv hK9 (y_one hMo) (ci := 10) rfl (q0 := 0) rfl) hMo hK9 hN hAO zw_nest_ok rfl hl.1 rfl (Nat.le_of_ble_eq_true rfl) dL_law_1371 ⟨(by show 147 + 0 ≤ 656031; omega), (by show 786 + 0 ≤ 7134144; omega)⟩ hS (fun _ h => h.elim) (fun H locs hB1 oq1 hz1 hS => ?_)
    have hO := va_at.kept hO (oq1 _ (va_at.lt hO) (fun h => h))
    refine lv_iload hx hb dL_law_1374 (lv_at hl 1 rfl) ?_
    refine lv_icmp_eq (tgt := 1381) hx hb dL_law_1376 (by decide) (fun _ => ?_) (fun c9 => absurd rfl c9)
    refine lv_iload hx hb dL_law_1381 (lv_at hl 1 rfl) ?_
    refine lv_if_ne (tgt := 1398) hx hb dL_law_1383 (by decide) (fun _ => ?_) (fun c9 => absurd c9 (by decide))
    refine lv_goto (tgt := 1716) hx hb dL_law_1398 (by decide) ?_
    refine W.widen (k := 656031) (n := 7134144) (by show 147 ≤ 656031; omega) (by show 786 ≤ 7134144; omega) ?_
    exact hJ _ _ _ (lv_sub hl [2, 3, 4, 5, 6] rfl) hS
set_option maxHeartbeats 4000000 in
set_option maxRecDepth 100000 in
theorem la_meanWarmth {p : Program} {e : Env} {s : State} {m : MethodId} {below : List Frame} {meth : Method} {c : Code} {Q : State → Prop} (l : Launch) (hl9 : l.stackTraces = false) {b : Nat} {xs : Nat → Int32} (dC : Nat → ClassId) (dI : Nat → Nat → Nat) (ca : Nat → ClassId)
    (hx : p.tables.exec = Jvm.exec) (hb : c.code = cL_law) (hml : c.maxLocals = 9) (hown : s.vm.findClass RL = some m.cls) (hts : ∀ w ∈ wsL_law, w.before #[Value.ref b] s = true) (hX : va_X b 6 xs s s.heap) (hbl : b < s.heap.size) (hK : va_K (dC, dI) vwCl (lt9 ca) s) (hN : z_N zw_nest s) (hAO : va_AOA .int s) (hEx : zEx9 (fun q => s.heap.size ≤ q) s)
    (sf mo ob : Nat) (ad ad2 ar : Nat → Nat) (hI : z_I zd ad) (hI2 : z_I zd ad2) (hq : zSep sf ad ad2) (hA2 : ∀ q, zA2 ad ad2 q → s.heap.size ≤ q ∧ q < mo) (hIr : z_I yd ar) (hrb : ∀ i, yd.1 i < 200 → mo < ar i ∧ ar i < ob) (hmo : s.heap.size ≤ mo) (hob : mo < ob)
    (H : Heap) (locs : List Loc) (ls : Array Slot) (hl : lv_has ls 9 [(4, .int 0), (3, .ref ob), (2, .ref mo), (1, .ref sf), (0, .ref b)]) (hT : zT dC dI ca sf (ad 0) (ad2 0) H) (hC1 : zW dC dI ca ad zMi H) (hC2 : zW dC dI ca ad2 zMi H) (hMo : yMo dC dI mo 0 (ar 0) 0 H) (hR : yW dC dI ca ar (yM 0) H) (hO : yO dC dI ca ob (fun _ => 0) H) (hS : va_S (fun q => s.heap.size ≤ q) s.heap H locs)
    (hJ : ∀ (H : Heap) (locs : List Loc) (ls : Array Slot), lv_has ls 9 [(4, .int 0), (3, .ref ob), (2, .ref mo), (1, .ref sf), (0, .ref b)] → va_S (fun q => s.heap.size ≤ q) s.heap H locs → W p l e room_1 s m #[Value.ref b] below meth c H locs 656031 7134144 Q (F0 m 1716 ls [])) : W p l e room_1 s m #[Value.ref b] below meth c H locs 146 780 Q (F0 m 1401 ls []) := by
  have hbA : ¬ (fun q => s.heap.size ≤ q) b := Nat.not_le.mpr hbl
  have hK5 : va_K (dC, dI) vwCl (zt ca) s := va_K.sub hK [0, 1, 2, 3, 4] rfl
  have hK9 : va_K (dC, dI) vwCl (yt ca) s := va_K.sub hK [0, 5] rfl
  have hmr : ∀ i, yd.1 i < 200 → ar i ≠ mo := fun i hi => by have h1 := hrb i hi; omega
  have hob2 : ¬ zA2 ad ad2 ob := fun h => by have h1 := hA2 _ h; omega
  have hAz : ∀ q, zA2 ad ad2 q → (fun q => s.heap.size ≤ q) q := fun q h => (hA2 q h).1
  have hAo : ∀ q, zAo ad ad2 ob q → (fun q => s.heap.size ≤ q) q := by
    rintro q (h | h)
    · exact (hA2 q h).1
    · rw [h]; show s.heap.size ≤ ob; omega
  have hmoA : ¬ zAo ad ad2 ob mo := by
    rintro (h | h)
    · have h1 := hA2 _ h; omega
    · omega
  have hrA : ∀ i, yd.1 i < 200 → ¬ zAo ad ad2 ob (ar i) := fun i hi => by
    have h2 := hrb i hi
    rintro (h | h)
    · have h1 := hA2 _ h; omega
    · omega
  refine lv_aload_n hx hb dL_law_1401 rfl (lv_at hl 3 rfl) ?_
  refine z_cVd (D := (dC, dI)) (cl := vwCl) (tys := zt ca) (nw := zw_nest) (C := RX8) (As := []) (rest := []) ⟨hx, hb, hml, hown, hts⟩ (m_X8_meanWarmth l dC dI ca sf ad hI ad2 hI2 hq zMi zMi rfl) (cwV 0 hts gL_law_X8_meanWarmth rfl rfl rfl (by decide +kernel) ⟨Nat.le_of_ble_eq_true rfl, Nat.le_of_ble_eq_true rfl⟩) (z_recv (ci := 8) (i := 0) hK5 hT rfl (by decide) rfl) ⟨hT, hC1, hC2⟩ hK5 hN zw_nest_ok rfl hl.1 rfl (Nat.le_of_ble_eq_true rfl) dL_law_1402 ⟨(by show 146 ≤ 656031; omega), (by show 780 ≤ 7134144; omega)⟩ hS hAz (fun r9 hr9 H locs hB1 oq1 hz1 hS => ?_)
  have hMo := va_at.kept hMo (oq1 _ (va_at.lt hMo) (fun h => by have h1 := hA2 _ h; omega))
  have hR := hR.kept (fun i hi => oq1 _ (hR.lt hi) (fun h => by have h1 := hA2 _ h; have h2 := hrb i hi; omega))
  have hO := va_at.kept hO (oq1 _ (va_at.lt hO) hob2)
  obtain rfl := hr9
  refine lv_dstore (lv' := [(5, .double FP.dconst0), (4, .int 0), (3, .ref ob), (2, .ref mo), (1, .ref sf), (0, .ref b)]) hx hb dL_law_1405 hl (by decide) rfl (fun ls hl => ?_)
  refine lv_aload_n hx hb dL_law_1407 rfl (lv_at hl 3 rfl) ?_
  refine y_cVd (D := (dC, dI)) (cl := vwCl) (tys := yt ca) (nw := zw_nest) (C := RX10) (As := []) (rest := []) ⟨hx, hb, hml, hown, hts⟩ (m_X10_meanWarmth l dC dI ca mo _ ar hIr hmr 0 0  ) (cwV 0 hts gL_law_X10_meanWarmth rfl rfl rfl (by decide +kernel) ⟨Nat.le_of_ble_eq_true rfl, Nat.le_of_ble_eq_true rfl⟩) (va_recv hK9 (y_one hMo) (ci := 10) rfl (q0 := 0) rfl) ⟨rfl, hMo, hR⟩ hK9 hN hAO zw_nest_ok rfl hl.1 rfl (Nat.le_of_ble_eq_true rfl) dL_law_1408 ⟨(by show 146 + 0 ≤ 656031; omega), (by show 780 + 0 ≤ 7134144; omega)⟩ hS (yA_law hmo (fun i hi => Nat.le_trans hmo (Nat.le_of_lt (hrb i hi).1)) hS.1) (fun r9 hr9 H locs hB1 oq1 hz1 hS => ?_)
  have hO := va_at.kept hO (oq1 _ (va_at.lt hO) (yA_ob hob hrb (va_at.lt hO)))
  obtain ⟨hMo, hR⟩ := hB1
  obtain rfl := hr9
  refine lv_dstore (lv' := [(7, .double FP.dconst0), (5, .double FP.dconst0), (4, .int 0), (3, .ref ob), (2, .ref mo), (1, .ref sf), (0, .ref b)]) hx hb dL_law_1411 hl (by decide) rfl (fun ls hl => ?_)
  refine lv_dload hx hb dL_law_1413 (lv_at hl 1 rfl) ?_
  refine lv_dload hx hb dL_law_1415 (lv_at hl 0 rfl) ?_
  refine lv_dcmp hx hb dL_law_1417 ?_
  refine y_num (b := 0) (by decide +kernel) ?_
  refine lv_if_eq (tgt := 1439) hx hb dL_law_1418 (by decide) (fun _ => ?_) (fun c9 => absurd rfl c9)
  refine lv_goto (tgt := 1716) hx hb dL_law_1439 (by decide) ?_
  refine W.widen (k := 656031) (n := 7134144) (by show 146 ≤ 656031; omega) (by show 780 ≤ 7134144; omega) ?_
  exact hJ _ _ _ (lv_sub hl [2, 3, 4, 5, 6] rfl) hS
set_option maxHeartbeats 4000000 in
set_option maxRecDepth 100000 in
theorem la_wouldGive {p : Program} {e : Env} {s : State} {m : MethodId} {below : List Frame} {meth : Method} {c : Code} {Q : State → Prop} (l : Launch) (hl9 : l.stackTraces = false) {b : Nat} {xs : Nat → Int32} (dC : Nat → ClassId) (dI : Nat → Nat → Nat) (ca : Nat → ClassId)
    (hx : p.tables.exec = Jvm.exec) (hb : c.code = cL_law) (hml : c.maxLocals = 9) (hown : s.vm.findClass RL = some m.cls) (hts : ∀ w ∈ wsL_law, w.before #[Value.ref b] s = true) (hX : va_X b 6 xs s s.heap) (hbl : b < s.heap.size) (hK : va_K (dC, dI) vwCl (lt9 ca) s) (hN : z_N zw_nest s) (hAO : va_AOA .int s) (hEx : zEx9 (fun q => s.heap.size ≤ q) s)
    (sf mo ob : Nat) (ad ad2 ar : Nat → Nat) (hI : z_I zd ad) (hI2 : z_I zd ad2) (hq : zSep sf ad ad2) (hA2 : ∀ q, zA2 ad ad2 q → s.heap.size ≤ q ∧ q < mo) (hIr : z_I yd ar) (hrb : ∀ i, yd.1 i < 200 → mo < ar i ∧ ar i < ob) (hmo : s.heap.size ≤ mo) (hob : mo < ob)
    (H : Heap) (locs : List Loc) (ls : Array Slot) (hl : lv_has ls 9 [(4, .int 0), (3, .ref ob), (2, .ref mo), (1, .ref sf), (0, .ref b)]) (hT : zT dC dI ca sf (ad 0) (ad2 0) H) (hC1 : zW dC dI ca ad zMi H) (hC2 : zW dC dI ca ad2 zMi H) (hMo : yMo dC dI mo 0 (ar 0) 0 H) (hR : yW dC dI ca ar (yM 0) H) (hO : yO dC dI ca ob (fun _ => 0) H) (hS : va_S (fun q => s.heap.size ≤ q) s.heap H locs)
    (hJ : ∀ (H : Heap) (locs : List Loc) (ls : Array Slot), lv_has ls 9 [(4, .int 0), (3, .ref ob), (2, .ref mo), (1, .ref sf), (0, .ref b)] → va_S (fun q => s.heap.size ≤ q) s.heap H locs → W p l e room_1 s m #[Value.ref b] below meth c H locs 656031 7134144 Q (F0 m 1716 ls [])) : W p l e room_1 s m #[Value.ref b] below meth c H locs 146 780 Q (F0 m 1442 ls []) := by
  have hbA : ¬ (fun q => s.heap.size ≤ q) b := Nat.not_le.mpr hbl
  have hK5 : va_K (dC, dI) vwCl (zt ca) s := va_K.sub hK [0, 1, 2, 3, 4] rfl
  have hK9 : va_K (dC, dI) vwCl (yt ca) s := va_K.sub hK [0, 5] rfl
  have hmr : ∀ i, yd.1 i < 200 → ar i ≠ mo := fun i hi => by have h1 := hrb i hi; omega
  have hob2 : ¬ zA2 ad ad2 ob := fun h => by have h1 := hA2 _ h; omega
  have hAz : ∀ q, zA2 ad ad2 q → (fun q => s.heap.size ≤ q) q := fun q h => (hA2 q h).1
  have hAo : ∀ q, zAo ad ad2 ob q → (fun q => s.heap.size ≤ q) q := by
    rintro q (h | h)
    · exact (hA2 q h).1
    · rw [h]; show s.heap.size ≤ ob; omega
  have hmoA : ¬ zAo ad ad2 ob mo := by
    rintro (h | h)
    · have h1 := hA2 _ h; omega
    · omega
  have hrA : ∀ i, yd.1 i < 200 → ¬ zAo ad ad2 ob (ar i) := fun i hi => by
    have h2 := hrb i hi
    rintro (h | h)
    · have h1 := hA2 _ h; omega
    · omega
  by_cases h : z_rg (xs 1) 1 30
  · obtain ⟨K, hK1, hK2, hK3⟩ := z_ix_rg h (by decide) (by decide)
    have hk30 : K ≤ 30 := Nat.le_trans (Nat.le_of_lt_succ (show K < 31 from hK1)) (by decide)
    rw [hK3] at h
    refine lv_aload_n hx hb dL_law_1442 rfl (lv_at hl 3 rfl) ?_
    refine lv_aload_n hx hb dL_law_1443 rfl (lv_at hl 4 rfl) ?_
    refine lv_iload hx hb dL_law_1444 (lv_at hl 0 rfl) ?_
    refine lv_iconst (v := 1) hx hb dL_law_1446 (by decide) ?_
    refine lv_iadd hx hb dL_law_1447 ?_
    refine y_num (b := 1) (by decide) ?_
    refine va_sld hx hb hX hbl hbA hS (show vp_in 1 6 from zx (n := 1) rfl (by decide) (by decide)) dL_law_1448 ?_
    refine y_num (b := (nI K)) (show xs 1 = (nI K) from hK3) ?_
    refine lv_aload_n hx hb dL_law_1449 rfl (lv_at hl 1 rfl) ?_
    refine z_cW (D := (dC, dI)) (cl := vwCl) (tys := lt9 ca) (nw := zw_nest) (av := [.ref sf, .int (nI K), .ref ob]) (rest := []) ⟨hx, hb, hml, hown, hts⟩ (m_L_wouldGivey l dC dI ca sf ad hI ad2 hI2 hq ob hob2 (fun _ => 0) zMi zMi (nI K) zOkMi h (Or.inr rfl)) (vx_cwSW 3 hts gL_law_L_wouldGive rfl rfl rfl (by decide +kernel) ⟨Nat.le_of_ble_eq_true rfl, Nat.le_of_ble_eq_true rfl⟩) ⟨⟨hT, hC1, hC2⟩, hO⟩ hK hN zw_nest_ok rfl hl.1 rfl (Nat.le_of_ble_eq_true rfl) dL_law_1450 ⟨(by show 146 + 0 ≤ 656031; omega), (by show 780 + 0 ≤ 7134144; omega)⟩ hS hAo (fun H locs hB1 oq1 hz1 hS => ?_)
    have hO := hB1
    rw [vX_wouldGive hk30] at hO
    have hMo := va_at.kept hMo (oq1 _ (va_at.lt hMo) hmoA)
    have hR := hR.kept (fun i hi => oq1 _ (hR.lt hi) (hrA i hi))
    refine lv_istore (lv' := [(5, .int 0), (4, .int 0), (3, .ref ob), (2, .ref mo), (1, .ref sf), (0, .ref b)]) hx hb dL_law_1453 hl (by decide) rfl (fun ls hl => ?_)
    refine lv_aload_n hx hb dL_law_1455 rfl (lv_at hl 3 rfl) ?_
    refine lv_aload_n hx hb dL_law_1456 rfl (lv_at hl 5 rfl) ?_
    refine lv_iload hx hb dL_law_1457 (lv_at hl 1 rfl) ?_
    refine lv_iconst (v := 1) hx hb dL_law_1459 (by decide) ?_
    refine lv_iadd hx hb dL_law_1460 ?_
    refine y_num (b := 1) (by decide) ?_
    refine va_sld hx hb hX hbl hbA hS (show vp_in 1 6 from zx (n := 1) rfl (by decide) (by decide)) dL_law_1461 ?_
    refine y_num (b := (nI K)) (show xs 1 = (nI K) from hK3) ?_
    refine y_cVi (D := (dC, dI)) (cl := vwCl) (tys := yt ca) (nw := zw_nest) (C := RX10) (As := [.int (nI K)]) (rest := []) ⟨hx, hb, hml, hown, hts⟩ (m_X10_wouldGivey l dC dI ca mo _ ar hIr hmr 0 0 K hk30 h) (cwV 1 hts gL_law_X10_wouldGive rfl rfl rfl (by decide +kernel) ⟨Nat.le_of_ble_eq_true rfl, Nat.le_of_ble_eq_true rfl⟩) (va_recv hK9 (y_one hMo) (ci := 10) rfl (q0 := 0) rfl) ⟨rfl, hMo, hR⟩ hK9 hN hAO zw_nest_ok rfl hl.1 rfl (Nat.le_of_ble_eq_true rfl) dL_law_1462 ⟨(by show 146 + 41 ≤ 656031; omega), (by show 780 + 254 ≤ 7134144; omega)⟩ hS (yA_law hmo (fun i hi => Nat.le_trans hmo (Nat.le_of_lt (hrb i hi).1)) hS.1) (fun H locs hB1 oq1 hz1 hS => ?_)
    have hO := va_at.kept hO (oq1 _ (va_at.lt hO) (yA_ob hob hrb (va_at.lt hO)))
    have hMo := hB1
    refine lv_istore (lv' := [(6, .int 0), (5, .int 0), (4, .int 0), (3, .ref ob), (2, .ref mo), (1, .ref sf), (0, .ref b)]) hx hb dL_law_1465 hl (by decide) rfl (fun ls hl => ?_)
    refine lv_aload_n hx hb dL_law_1467 rfl (lv_at hl 4 rfl) ?_
    refine y_cVi (D := (dC, dI)) (cl := vwCl) (tys := yt ca) (nw := zw_nest) (C := RX10) (As := []) (rest := []) ⟨hx, hb, hml, hown, hts⟩ (m_X10_thrown0 l dC dI ca mo (ar 0) 0 0) (cwV 0 hts gL_law_X10_thrown rfl rfl rfl (by decide +kernel) ⟨Nat.le_of_ble_eq_true rfl, Nat.le_of_ble_eq_true rfl⟩) (va_recv hK9 (y_one hMo) (ci := 10) rfl (q0 := 0) rfl) hMo hK9 hN hAO zw_nest_ok rfl hl.1 rfl (Nat.le_of_ble_eq_true rfl) dL_law_1468 ⟨(by show 187 + 0 ≤ 656031; omega), (by show 1034 + 0 ≤ 7134144; omega)⟩ hS (fun _ h => h.elim) (fun H locs hB1 oq1 hz1 hS => ?_)
    have hO := va_at.kept hO (oq1 _ (va_at.lt hO) (fun h => h))
    refine lv_iload hx hb dL_law_1471 (lv_at hl 1 rfl) ?_
    refine lv_icmp_eq (tgt := 1478) hx hb dL_law_1473 (by decide) (fun _ => ?_) (fun c9 => absurd rfl c9)
    refine lv_iload hx hb dL_law_1478 (lv_at hl 1 rfl) ?_
    refine lv_if_ne (tgt := 1495) hx hb dL_law_1480 (by decide) (fun c9 => absurd c9 (by decide)) (fun _ => ?_)
    refine lv_aload_n hx hb dL_law_1483 rfl (lv_at hl 3 rfl) ?_
    refine lv_iconst (v := 0) hx hb dL_law_1484 (by decide) ?_
    refine va_lald hx hb hK (y_one hO) 0 6 rfl rfl (zx (n := 0) (N := 1) (x := 0) rfl (by decide) (by decide)) dL_law_1485 ?_
    refine y_lng (b := (0 : Int32).toInt64) rfl ?_
    refine lv_iload hx hb dL_law_1486 (lv_at hl 0 rfl) ?_
    refine lv_i2l hx hb dL_law_1488 rfl ?_
    refine W.lcmp hx hb dL_law_1489 ?_
    refine y_num (b := 0) (lg_self _) ?_
    refine lv_if_eq (tgt := 1495) hx hb dL_law_1490 (by decide) (fun _ => ?_) (fun c9 => absurd rfl c9)
    refine lv_goto (tgt := 1716) hx hb dL_law_1495 (by decide) ?_
    refine W.widen (k := 656031) (n := 7134144) (by show 187 ≤ 656031; omega) (by show 1034 ≤ 7134144; omega) ?_
    exact hJ _ _ _ (lv_sub hl [2, 3, 4, 5, 6] rfl) hS
  · skip
    refine lv_aload_n hx hb dL_law_1442 rfl (lv_at hl 3 rfl) ?_
    refine lv_aload_n hx hb dL_law_1443 rfl (lv_at hl 4 rfl) ?_
    refine lv_iload hx hb dL_law_1444 (lv_at hl 0 rfl) ?_
    refine lv_iconst (v := 1) hx hb dL_law_1446 (by decide) ?_
    refine lv_iadd hx hb dL_law_1447 ?_
    refine y_num (b := 1) (by decide) ?_
    refine va_sld hx hb hX hbl hbA hS (show vp_in 1 6 from zx (n := 1) rfl (by decide) (by decide)) dL_law_1448 ?_
    refine y_num (b := (xs 1)) (show xs 1 = (xs 1) from rfl) ?_
    refine lv_aload_n hx hb dL_law_1449 rfl (lv_at hl 1 rfl) ?_
    refine z_cWx (D := (dC, dI)) (cl := vwCl) (tys := lt9 ca) (nw := zw_nest) (av := [.ref sf, .int (xs 1), .ref ob]) (rest := []) ⟨hx, hb, hml, hown, hts⟩ (m_L_wouldGivex l hl9 dC dI ca sf ad ad2 ob zMi zMi (xs 1) h) (vx_cwSW 3 hts gL_law_L_wouldGive rfl rfl rfl (by decide +kernel) ⟨Nat.le_of_ble_eq_true rfl, Nat.le_of_ble_eq_true rfl⟩) ⟨hT, hC1, hC2⟩ hK hN hEx zw_nest_ok rfl hl.1 rfl (Nat.le_of_ble_eq_true rfl) dL_law_1450 ⟨(by show 146 + 1 ≤ 656031; omega), (by show 780 + 6 ≤ 7134144; omega)⟩ hS (fun H locs oq1 hz1 hS => ?_)
    have hMo := va_at.kept hMo (oq1 _ (va_at.lt hMo))
    have hR := hR.kept (fun i hi => oq1 _ (hR.lt hi))
    have hO := va_at.kept hO (oq1 _ (va_at.lt hO))
    refine lv_istore (lv' := [(5, .int 1), (4, .int 0), (3, .ref ob), (2, .ref mo), (1, .ref sf), (0, .ref b)]) hx hb dL_law_1453 hl (by decide) rfl (fun ls hl => ?_)
    refine lv_aload_n hx hb dL_law_1455 rfl (lv_at hl 3 rfl) ?_
    refine lv_aload_n hx hb dL_law_1456 rfl (lv_at hl 5 rfl) ?_
    refine lv_iload hx hb dL_law_1457 (lv_at hl 1 rfl) ?_
    refine lv_iconst (v := 1) hx hb dL_law_1459 (by decide) ?_
    refine lv_iadd hx hb dL_law_1460 ?_
    refine y_num (b := 1) (by decide) ?_
    refine va_sld hx hb hX hbl hbA hS (show vp_in 1 6 from zx (n := 1) rfl (by decide) (by decide)) dL_law_1461 ?_
    refine y_num (b := (xs 1)) (show xs 1 = (xs 1) from rfl) ?_
    refine y_cVi (D := (dC, dI)) (cl := vwCl) (tys := yt ca) (nw := zw_nest) (C := RX10) (As := [.int (xs 1)]) (rest := []) ⟨hx, hb, hml, hown, hts⟩ (m_X10_wouldGiven l dC dI ca mo _ ar hIr hmr 0 0 (xs 1) h) (cwV 1 hts gL_law_X10_wouldGive rfl rfl rfl (by decide +kernel) ⟨Nat.le_of_ble_eq_true rfl, Nat.le_of_ble_eq_true rfl⟩) (va_recv hK9 (y_one hMo) (ci := 10) rfl (q0 := 0) rfl) ⟨rfl, hMo, hR⟩ hK9 hN hAO zw_nest_ok rfl hl.1 rfl (Nat.le_of_ble_eq_true rfl) dL_law_1462 ⟨(by show 147 + 0 ≤ 656031; omega), (by show 786 + 0 ≤ 7134144; omega)⟩ hS (yA_law hmo (fun i hi => Nat.le_trans hmo (Nat.le_of_lt (hrb i hi).1)) hS.1) (fun H locs hB1 oq1 hz1 hS => ?_)
    have hO := va_at.kept hO (oq1 _ (va_at.lt hO) (yA_ob hob hrb (va_at.lt hO)))
    obtain ⟨hMo, hR⟩ := hB1
    refine lv_istore (lv' := [(6, .int 0), (5, .int 1), (4, .int 0), (3, .ref ob), (2, .ref mo), (1, .ref sf), (0, .ref b)]) hx hb dL_law_1465 hl (by decide) rfl (fun ls hl => ?_)
    refine lv_aload_n hx hb dL_law_1467 rfl (lv_at hl 4 rfl) ?_
    refine y_cVi (D := (dC, dI)) (cl := vwCl) (tys := yt ca) (nw := zw_nest) (C := RX10) (As := []) (rest := []) ⟨hx, hb, hml, hown, hts⟩ (m_X10_thrown0 l dC dI ca mo (ar 0) 1 0) (cwV 0 hts gL_law_X10_thrown rfl rfl rfl (by decide +kernel) ⟨Nat.le_of_ble_eq_true rfl, Nat.le_of_ble_eq_true rfl⟩) (va_recv hK9 (y_one hMo) (ci := 10) rfl (q0 := 0) rfl) hMo hK9 hN hAO zw_nest_ok rfl hl.1 rfl (Nat.le_of_ble_eq_true rfl) dL_law_1468 ⟨(by show 147 + 0 ≤ 656031; omega), (by show 786 + 0 ≤ 7134144; omega)⟩ hS (fun _ h => h.elim) (fun H locs hB1 oq1 hz1 hS => ?_)
    have hO := va_at.kept hO (oq1 _ (va_at.lt hO) (fun h => h))
    refine lv_iload hx hb dL_law_1471 (lv_at hl 1 rfl) ?_
    refine lv_icmp_eq (tgt := 1478) hx hb dL_law_1473 (by decide) (fun _ => ?_) (fun c9 => absurd rfl c9)
    refine lv_iload hx hb dL_law_1478 (lv_at hl 1 rfl) ?_
    refine lv_if_ne (tgt := 1495) hx hb dL_law_1480 (by decide) (fun _ => ?_) (fun c9 => absurd c9 (by decide))
    refine lv_goto (tgt := 1716) hx hb dL_law_1495 (by decide) ?_
    refine W.widen (k := 656031) (n := 7134144) (by show 147 ≤ 656031; omega) (by show 786 ≤ 7134144; omega) ?_
    exact hJ _ _ _ (lv_sub hl [2, 3, 4, 5, 6] rfl) hS
set_option maxHeartbeats 4000000 in
set_option maxRecDepth 100000 in
theorem la_coldIn {p : Program} {e : Env} {s : State} {m : MethodId} {below : List Frame} {meth : Method} {c : Code} {Q : State → Prop} (l : Launch) (hl9 : l.stackTraces = false) {b : Nat} {xs : Nat → Int32} (dC : Nat → ClassId) (dI : Nat → Nat → Nat) (ca : Nat → ClassId)
    (hx : p.tables.exec = Jvm.exec) (hb : c.code = cL_law) (hml : c.maxLocals = 9) (hown : s.vm.findClass RL = some m.cls) (hts : ∀ w ∈ wsL_law, w.before #[Value.ref b] s = true) (hX : va_X b 6 xs s s.heap) (hbl : b < s.heap.size) (hK : va_K (dC, dI) vwCl (lt9 ca) s) (hN : z_N zw_nest s) (hAO : va_AOA .int s) (hEx : zEx9 (fun q => s.heap.size ≤ q) s)
    (sf mo ob : Nat) (ad ad2 ar : Nat → Nat) (hI : z_I zd ad) (hI2 : z_I zd ad2) (hq : zSep sf ad ad2) (hA2 : ∀ q, zA2 ad ad2 q → s.heap.size ≤ q ∧ q < mo) (hIr : z_I yd ar) (hrb : ∀ i, yd.1 i < 200 → mo < ar i ∧ ar i < ob) (hmo : s.heap.size ≤ mo) (hob : mo < ob)
    (H : Heap) (locs : List Loc) (ls : Array Slot) (hl : lv_has ls 9 [(4, .int 0), (3, .ref ob), (2, .ref mo), (1, .ref sf), (0, .ref b)]) (hT : zT dC dI ca sf (ad 0) (ad2 0) H) (hC1 : zW dC dI ca ad zMi H) (hC2 : zW dC dI ca ad2 zMi H) (hMo : yMo dC dI mo 0 (ar 0) 0 H) (hR : yW dC dI ca ar (yM 0) H) (hO : yO dC dI ca ob (fun _ => 0) H) (hS : va_S (fun q => s.heap.size ≤ q) s.heap H locs)
    (hJ : ∀ (H : Heap) (locs : List Loc) (ls : Array Slot), lv_has ls 9 [(4, .int 0), (3, .ref ob), (2, .ref mo), (1, .ref sf), (0, .ref b)] → va_S (fun q => s.heap.size ≤ q) s.heap H locs → W p l e room_1 s m #[Value.ref b] below meth c H locs 656031 7134144 Q (F0 m 1716 ls [])) : W p l e room_1 s m #[Value.ref b] below meth c H locs 146 780 Q (F0 m 1498 ls []) := by
  have hbA : ¬ (fun q => s.heap.size ≤ q) b := Nat.not_le.mpr hbl
  have hK5 : va_K (dC, dI) vwCl (zt ca) s := va_K.sub hK [0, 1, 2, 3, 4] rfl
  have hK9 : va_K (dC, dI) vwCl (yt ca) s := va_K.sub hK [0, 5] rfl
  have hmr : ∀ i, yd.1 i < 200 → ar i ≠ mo := fun i hi => by have h1 := hrb i hi; omega
  have hob2 : ¬ zA2 ad ad2 ob := fun h => by have h1 := hA2 _ h; omega
  have hAz : ∀ q, zA2 ad ad2 q → (fun q => s.heap.size ≤ q) q := fun q h => (hA2 q h).1
  have hAo : ∀ q, zAo ad ad2 ob q → (fun q => s.heap.size ≤ q) q := by
    rintro q (h | h)
    · exact (hA2 q h).1
    · rw [h]; show s.heap.size ≤ ob; omega
  have hmoA : ¬ zAo ad ad2 ob mo := by
    rintro (h | h)
    · have h1 := hA2 _ h; omega
    · omega
  have hrA : ∀ i, yd.1 i < 200 → ¬ zAo ad ad2 ob (ar i) := fun i hi => by
    have h2 := hrb i hi
    rintro (h | h)
    · have h1 := hA2 _ h; omega
    · omega
  refine lv_aload_n hx hb dL_law_1498 rfl (lv_at hl 3 rfl) ?_
  refine lv_aload_n hx hb dL_law_1499 rfl (lv_at hl 4 rfl) ?_
  refine lv_iload hx hb dL_law_1500 (lv_at hl 0 rfl) ?_
  refine lv_iconst (v := 1) hx hb dL_law_1502 (by decide) ?_
  refine lv_iadd hx hb dL_law_1503 ?_
  refine y_num (b := 1) (by decide) ?_
  refine va_sld hx hb hX hbl hbA hS (show vp_in 1 6 from zx (n := 1) rfl (by decide) (by decide)) dL_law_1504 ?_
  refine y_num (b := (xs 1)) (show xs 1 = (xs 1) from rfl) ?_
  refine lv_aload_n hx hb dL_law_1505 rfl (lv_at hl 4 rfl) ?_
  refine lv_iload hx hb dL_law_1506 (lv_at hl 0 rfl) ?_
  refine lv_iconst (v := 2) hx hb dL_law_1508 (by decide) ?_
  refine lv_iadd hx hb dL_law_1509 ?_
  refine y_num (b := 2) (by decide) ?_
  refine va_sld hx hb hX hbl hbA hS (show vp_in 2 6 from zx (n := 2) rfl (by decide) (by decide)) dL_law_1510 ?_
  refine y_num (b := (xs 2)) (show xs 2 = (xs 2) from rfl) ?_
  refine lv_aload_n hx hb dL_law_1511 rfl (lv_at hl 1 rfl) ?_
  refine z_cWx (D := (dC, dI)) (cl := vwCl) (tys := lt9 ca) (nw := zw_nest) (av := [.ref sf, .int (xs 1), .int (xs 2), .ref ob]) (rest := []) ⟨hx, hb, hml, hown, hts⟩ (m_L_coldInx l hl9 dC dI ca sf ad ad2 ob zMi zMi (xs 1) (xs 2) (z_ni0 _)) (vx_cwSW 4 hts gL_law_L_coldIn rfl rfl rfl (by decide +kernel) ⟨Nat.le_of_ble_eq_true rfl, Nat.le_of_ble_eq_true rfl⟩) ⟨hT, hC1, hC2⟩ hK hN hEx zw_nest_ok rfl hl.1 rfl (Nat.le_of_ble_eq_true rfl) dL_law_1512 ⟨(by show 146 + 1 ≤ 656031; omega), (by show 780 + 6 ≤ 7134144; omega)⟩ hS (fun H locs oq1 hz1 hS => ?_)
  have hMo := va_at.kept hMo (oq1 _ (va_at.lt hMo))
  have hR := hR.kept (fun i hi => oq1 _ (hR.lt hi))
  have hO := va_at.kept hO (oq1 _ (va_at.lt hO))
  refine lv_istore (lv' := [(5, .int 1), (4, .int 0), (3, .ref ob), (2, .ref mo), (1, .ref sf), (0, .ref b)]) hx hb dL_law_1515 hl (by decide) rfl (fun ls hl => ?_)
  refine lv_aload_n hx hb dL_law_1517 rfl (lv_at hl 3 rfl) ?_
  refine lv_aload_n hx hb dL_law_1518 rfl (lv_at hl 5 rfl) ?_
  refine lv_iload hx hb dL_law_1519 (lv_at hl 1 rfl) ?_
  refine lv_iconst (v := 1) hx hb dL_law_1521 (by decide) ?_
  refine lv_iadd hx hb dL_law_1522 ?_
  refine y_num (b := 1) (by decide) ?_
  refine va_sld hx hb hX hbl hbA hS (show vp_in 1 6 from zx (n := 1) rfl (by decide) (by decide)) dL_law_1523 ?_
  refine y_num (b := (xs 1)) (show xs 1 = (xs 1) from rfl) ?_
  refine lv_aload_n hx hb dL_law_1524 rfl (lv_at hl 5 rfl) ?_
  refine lv_iload hx hb dL_law_1525 (lv_at hl 1 rfl) ?_
  refine lv_iconst (v := 2) hx hb dL_law_1527 (by decide) ?_
  refine lv_iadd hx hb dL_law_1528 ?_
  refine y_num (b := 2) (by decide) ?_
  refine va_sld hx hb hX hbl hbA hS (show vp_in 2 6 from zx (n := 2) rfl (by decide) (by decide)) dL_law_1529 ?_
  refine y_num (b := (xs 2)) (show xs 2 = (xs 2) from rfl) ?_
  refine y_cVi (D := (dC, dI)) (cl := vwCl) (tys := yt ca) (nw := zw_nest) (C := RX10) (As := [.int (xs 1), .int (xs 2)]) (rest := []) ⟨hx, hb, hml, hown, hts⟩ (m_X10_coldIn l dC dI ca mo _ ar hIr hmr 0 0 (xs 1) (xs 2) ) (cwV 2 hts gL_law_X10_coldIn rfl rfl rfl (by decide +kernel) ⟨Nat.le_of_ble_eq_true rfl, Nat.le_of_ble_eq_true rfl⟩) (va_recv hK9 (y_one hMo) (ci := 10) rfl (q0 := 0) rfl) ⟨rfl, hMo, hR⟩ hK9 hN hAO zw_nest_ok rfl hl.1 rfl (Nat.le_of_ble_eq_true rfl) dL_law_1530 ⟨(by show 147 + 0 ≤ 656031; omega), (by show 786 + 0 ≤ 7134144; omega)⟩ hS (yA_law hmo (fun i hi => Nat.le_trans hmo (Nat.le_of_lt (hrb i hi).1)) hS.1) (fun H locs hB1 oq1 hz1 hS => ?_)
  have hO := va_at.kept hO (oq1 _ (va_at.lt hO) (yA_ob hob hrb (va_at.lt hO)))
  obtain ⟨hMo, hR⟩ := hB1
  refine lv_istore (lv' := [(6, .int 0), (5, .int 1), (4, .int 0), (3, .ref ob), (2, .ref mo), (1, .ref sf), (0, .ref b)]) hx hb dL_law_1533 hl (by decide) rfl (fun ls hl => ?_)
  refine lv_aload_n hx hb dL_law_1535 rfl (lv_at hl 4 rfl) ?_
  refine y_cVi (D := (dC, dI)) (cl := vwCl) (tys := yt ca) (nw := zw_nest) (C := RX10) (As := []) (rest := []) ⟨hx, hb, hml, hown, hts⟩ (m_X10_thrown0 l dC dI ca mo (ar 0) 1 0) (cwV 0 hts gL_law_X10_thrown rfl rfl rfl (by decide +kernel) ⟨Nat.le_of_ble_eq_true rfl, Nat.le_of_ble_eq_true rfl⟩) (va_recv hK9 (y_one hMo) (ci := 10) rfl (q0 := 0) rfl) hMo hK9 hN hAO zw_nest_ok rfl hl.1 rfl (Nat.le_of_ble_eq_true rfl) dL_law_1536 ⟨(by show 147 + 0 ≤ 656031; omega), (by show 786 + 0 ≤ 7134144; omega)⟩ hS (fun _ h => h.elim) (fun H locs hB1 oq1 hz1 hS => ?_)
  have hO := va_at.kept hO (oq1 _ (va_at.lt hO) (fun h => h))
  refine lv_iload hx hb dL_law_1539 (lv_at hl 1 rfl) ?_
  refine lv_icmp_eq (tgt := 1546) hx hb dL_law_1541 (by decide) (fun _ => ?_) (fun c9 => absurd rfl c9)
  refine lv_iload hx hb dL_law_1546 (lv_at hl 1 rfl) ?_
  refine lv_if_ne (tgt := 1563) hx hb dL_law_1548 (by decide) (fun _ => ?_) (fun c9 => absurd c9 (by decide))
  refine lv_goto (tgt := 1716) hx hb dL_law_1563 (by decide) ?_
  refine W.widen (k := 656031) (n := 7134144) (by show 147 ≤ 656031; omega) (by show 786 ≤ 7134144; omega) ?_
  exact hJ _ _ _ (lv_sub hl [2, 3, 4, 5, 6] rfl) hS
set_option maxHeartbeats 4000000 in
set_option maxRecDepth 100000 in
theorem la_causedBy {p : Program} {e : Env} {s : State} {m : MethodId} {below : List Frame} {meth : Method} {c : Code} {Q : State → Prop} (l : Launch) (hl9 : l.stackTraces = false) {b : Nat} {xs : Nat → Int32} (dC : Nat → ClassId) (dI : Nat → Nat → Nat) (ca : Nat → ClassId)
    (hx : p.tables.exec = Jvm.exec) (hb : c.code = cL_law) (hml : c.maxLocals = 9) (hown : s.vm.findClass RL = some m.cls) (hts : ∀ w ∈ wsL_law, w.before #[Value.ref b] s = true) (hX : va_X b 6 xs s s.heap) (hbl : b < s.heap.size) (hK : va_K (dC, dI) vwCl (lt9 ca) s) (hN : z_N zw_nest s) (hAO : va_AOA .int s) (hEx : zEx9 (fun q => s.heap.size ≤ q) s)
    (sf mo ob : Nat) (ad ad2 ar : Nat → Nat) (hI : z_I zd ad) (hI2 : z_I zd ad2) (hq : zSep sf ad ad2) (hA2 : ∀ q, zA2 ad ad2 q → s.heap.size ≤ q ∧ q < mo) (hIr : z_I yd ar) (hrb : ∀ i, yd.1 i < 200 → mo < ar i ∧ ar i < ob) (hmo : s.heap.size ≤ mo) (hob : mo < ob)
    (H : Heap) (locs : List Loc) (ls : Array Slot) (hl : lv_has ls 9 [(4, .int 0), (3, .ref ob), (2, .ref mo), (1, .ref sf), (0, .ref b)]) (hT : zT dC dI ca sf (ad 0) (ad2 0) H) (hC1 : zW dC dI ca ad zMi H) (hC2 : zW dC dI ca ad2 zMi H) (hMo : yMo dC dI mo 0 (ar 0) 0 H) (hR : yW dC dI ca ar (yM 0) H) (hO : yO dC dI ca ob (fun _ => 0) H) (hS : va_S (fun q => s.heap.size ≤ q) s.heap H locs)
    (hJ : ∀ (H : Heap) (locs : List Loc) (ls : Array Slot), lv_has ls 9 [(4, .int 0), (3, .ref ob), (2, .ref mo), (1, .ref sf), (0, .ref b)] → va_S (fun q => s.heap.size ≤ q) s.heap H locs → W p l e room_1 s m #[Value.ref b] below meth c H locs 656031 7134144 Q (F0 m 1716 ls [])) : W p l e room_1 s m #[Value.ref b] below meth c H locs 146 780 Q (F0 m 1566 ls []) := by
  have hbA : ¬ (fun q => s.heap.size ≤ q) b := Nat.not_le.mpr hbl
  have hK5 : va_K (dC, dI) vwCl (zt ca) s := va_K.sub hK [0, 1, 2, 3, 4] rfl
  have hK9 : va_K (dC, dI) vwCl (yt ca) s := va_K.sub hK [0, 5] rfl
  have hmr : ∀ i, yd.1 i < 200 → ar i ≠ mo := fun i hi => by have h1 := hrb i hi; omega
  have hob2 : ¬ zA2 ad ad2 ob := fun h => by have h1 := hA2 _ h; omega
  have hAz : ∀ q, zA2 ad ad2 q → (fun q => s.heap.size ≤ q) q := fun q h => (hA2 q h).1
  have hAo : ∀ q, zAo ad ad2 ob q → (fun q => s.heap.size ≤ q) q := by
    rintro q (h | h)
    · exact (hA2 q h).1
    · rw [h]; show s.heap.size ≤ ob; omega
  have hmoA : ¬ zAo ad ad2 ob mo := by
    rintro (h | h)
    · have h1 := hA2 _ h; omega
    · omega
  have hrA : ∀ i, yd.1 i < 200 → ¬ zAo ad ad2 ob (ar i) := fun i hi => by
    have h2 := hrb i hi
    rintro (h | h)
    · have h1 := hA2 _ h; omega
    · omega
  refine lv_aload_n hx hb dL_law_1566 rfl (lv_at hl 3 rfl) ?_
  refine lv_aload_n hx hb dL_law_1567 rfl (lv_at hl 4 rfl) ?_
  refine lv_iload hx hb dL_law_1568 (lv_at hl 0 rfl) ?_
  refine lv_iconst (v := 1) hx hb dL_law_1570 (by decide) ?_
  refine lv_iadd hx hb dL_law_1571 ?_
  refine y_num (b := 1) (by decide) ?_
  refine va_sld hx hb hX hbl hbA hS (show vp_in 1 6 from zx (n := 1) rfl (by decide) (by decide)) dL_law_1572 ?_
  refine y_num (b := (xs 1)) (show xs 1 = (xs 1) from rfl) ?_
  refine lv_aload_n hx hb dL_law_1573 rfl (lv_at hl 4 rfl) ?_
  refine lv_iload hx hb dL_law_1574 (lv_at hl 0 rfl) ?_
  refine lv_iconst (v := 2) hx hb dL_law_1576 (by decide) ?_
  refine lv_iadd hx hb dL_law_1577 ?_
  refine y_num (b := 2) (by decide) ?_
  refine va_sld hx hb hX hbl hbA hS (show vp_in 2 6 from zx (n := 2) rfl (by decide) (by decide)) dL_law_1578 ?_
  refine y_num (b := (xs 2)) (show xs 2 = (xs 2) from rfl) ?_
  refine lv_aload_n hx hb dL_law_1579 rfl (lv_at hl 4 rfl) ?_
  refine lv_iload hx hb dL_law_1580 (lv_at hl 0 rfl) ?_
  refine lv_iconst (v := 3) hx hb dL_law_1582 (by decide) ?_
  refine lv_iadd hx hb dL_law_1583 ?_
  refine y_num (b := 3) (by decide) ?_
  refine va_sld hx hb hX hbl hbA hS (show vp_in 3 6 from zx (n := 3) rfl (by decide) (by decide)) dL_law_1584 ?_
  refine y_num (b := (xs 3)) (show xs 3 = (xs 3) from rfl) ?_
  refine lv_aload_n hx hb dL_law_1585 rfl (lv_at hl 1 rfl) ?_
  refine z_cWx (D := (dC, dI)) (cl := vwCl) (tys := lt9 ca) (nw := zw_nest) (av := [.ref sf, .int (xs 1), .int (xs 2), .int (xs 3), .ref ob]) (rest := []) ⟨hx, hb, hml, hown, hts⟩ (m_L_causedByx l hl9 dC dI ca sf ad ad2 ob zMi zMi (xs 1) (xs 2) (xs 3) (z_ni0 _)) (vx_cwSW 5 hts gL_law_L_causedBy rfl rfl rfl (by decide +kernel) ⟨Nat.le_of_ble_eq_true rfl, Nat.le_of_ble_eq_true rfl⟩) ⟨hT, hC1, hC2⟩ hK hN hEx zw_nest_ok rfl hl.1 rfl (Nat.le_of_ble_eq_true rfl) dL_law_1586 ⟨(by show 146 + 1 ≤ 656031; omega), (by show 780 + 6 ≤ 7134144; omega)⟩ hS (fun H locs oq1 hz1 hS => ?_)
  have hMo := va_at.kept hMo (oq1 _ (va_at.lt hMo))
  have hR := hR.kept (fun i hi => oq1 _ (hR.lt hi))
  have hO := va_at.kept hO (oq1 _ (va_at.lt hO))
  refine lv_istore (lv' := [(5, .int 1), (4, .int 0), (3, .ref ob), (2, .ref mo), (1, .ref sf), (0, .ref b)]) hx hb dL_law_1589 hl (by decide) rfl (fun ls hl => ?_)
  refine lv_aload_n hx hb dL_law_1591 rfl (lv_at hl 3 rfl) ?_
  refine lv_aload_n hx hb dL_law_1592 rfl (lv_at hl 5 rfl) ?_
  refine lv_iload hx hb dL_law_1593 (lv_at hl 1 rfl) ?_
  refine lv_iconst (v := 1) hx hb dL_law_1595 (by decide) ?_
  refine lv_iadd hx hb dL_law_1596 ?_
  refine y_num (b := 1) (by decide) ?_
  refine va_sld hx hb hX hbl hbA hS (show vp_in 1 6 from zx (n := 1) rfl (by decide) (by decide)) dL_law_1597 ?_
  refine y_num (b := (xs 1)) (show xs 1 = (xs 1) from rfl) ?_
  refine lv_aload_n hx hb dL_law_1598 rfl (lv_at hl 5 rfl) ?_
  refine lv_iload hx hb dL_law_1599 (lv_at hl 1 rfl) ?_
  refine lv_iconst (v := 2) hx hb dL_law_1601 (by decide) ?_
  refine lv_iadd hx hb dL_law_1602 ?_
  refine y_num (b := 2) (by decide) ?_
  refine va_sld hx hb hX hbl hbA hS (show vp_in 2 6 from zx (n := 2) rfl (by decide) (by decide)) dL_law_1603 ?_
  refine y_num (b := (xs 2)) (show xs 2 = (xs 2) from rfl) ?_
  refine lv_aload_n hx hb dL_law_1604 rfl (lv_at hl 5 rfl) ?_
  refine lv_iload hx hb dL_law_1605 (lv_at hl 1 rfl) ?_
  refine lv_iconst (v := 3) hx hb dL_law_1607 (by decide) ?_
  refine lv_iadd hx hb dL_law_1608 ?_
  refine y_num (b := 3) (by decide) ?_
  refine va_sld hx hb hX hbl hbA hS (show vp_in 3 6 from zx (n := 3) rfl (by decide) (by decide)) dL_law_1609 ?_
  refine y_num (b := (xs 3)) (show xs 3 = (xs 3) from rfl) ?_
  refine y_cVi (D := (dC, dI)) (cl := vwCl) (tys := yt ca) (nw := zw_nest) (C := RX10) (As := [.int (xs 1), .int (xs 2), .int (xs 3)]) (rest := []) ⟨hx, hb, hml, hown, hts⟩ (m_X10_causedBy l dC dI ca mo _ ar hIr hmr 0 0 (xs 1) (xs 2) (xs 3) ) (cwV 3 hts gL_law_X10_causedBy rfl rfl rfl (by decide +kernel) ⟨Nat.le_of_ble_eq_true rfl, Nat.le_of_ble_eq_true rfl⟩) (va_recv hK9 (y_one hMo) (ci := 10) rfl (q0 := 0) rfl) ⟨rfl, hMo, hR⟩ hK9 hN hAO zw_nest_ok rfl hl.1 rfl (Nat.le_of_ble_eq_true rfl) dL_law_1610 ⟨(by show 147 + 0 ≤ 656031; omega), (by show 786 + 0 ≤ 7134144; omega)⟩ hS (yA_law hmo (fun i hi => Nat.le_trans hmo (Nat.le_of_lt (hrb i hi).1)) hS.1) (fun H locs hB1 oq1 hz1 hS => ?_)
  have hO := va_at.kept hO (oq1 _ (va_at.lt hO) (yA_ob hob hrb (va_at.lt hO)))
  obtain ⟨hMo, hR⟩ := hB1
  refine lv_istore (lv' := [(6, .int 0), (5, .int 1), (4, .int 0), (3, .ref ob), (2, .ref mo), (1, .ref sf), (0, .ref b)]) hx hb dL_law_1613 hl (by decide) rfl (fun ls hl => ?_)
  refine lv_aload_n hx hb dL_law_1615 rfl (lv_at hl 4 rfl) ?_
  refine y_cVi (D := (dC, dI)) (cl := vwCl) (tys := yt ca) (nw := zw_nest) (C := RX10) (As := []) (rest := []) ⟨hx, hb, hml, hown, hts⟩ (m_X10_thrown0 l dC dI ca mo (ar 0) 1 0) (cwV 0 hts gL_law_X10_thrown rfl rfl rfl (by decide +kernel) ⟨Nat.le_of_ble_eq_true rfl, Nat.le_of_ble_eq_true rfl⟩) (va_recv hK9 (y_one hMo) (ci := 10) rfl (q0 := 0) rfl) hMo hK9 hN hAO zw_nest_ok rfl hl.1 rfl (Nat.le_of_ble_eq_true rfl) dL_law_1616 ⟨(by show 147 + 0 ≤ 656031; omega), (by show 786 + 0 ≤ 7134144; omega)⟩ hS (fun _ h => h.elim) (fun H locs hB1 oq1 hz1 hS => ?_)
  have hO := va_at.kept hO (oq1 _ (va_at.lt hO) (fun h => h))
  refine lv_iload hx hb dL_law_1619 (lv_at hl 1 rfl) ?_
  refine lv_icmp_eq (tgt := 1626) hx hb dL_law_1621 (by decide) (fun _ => ?_) (fun c9 => absurd rfl c9)
  refine lv_iload hx hb dL_law_1626 (lv_at hl 1 rfl) ?_
  refine lv_if_ne (tgt := 1643) hx hb dL_law_1628 (by decide) (fun _ => ?_) (fun c9 => absurd c9 (by decide))
  refine lv_goto (tgt := 1716) hx hb dL_law_1643 (by decide) ?_
  refine W.widen (k := 656031) (n := 7134144) (by show 147 ≤ 656031; omega) (by show 786 ≤ 7134144; omega) ?_
  exact hJ _ _ _ (lv_sub hl [2, 3, 4, 5, 6] rfl) hS
set_option maxHeartbeats 4000000 in
set_option maxRecDepth 100000 in
theorem la_bestValves {p : Program} {e : Env} {s : State} {m : MethodId} {below : List Frame} {meth : Method} {c : Code} {Q : State → Prop} (l : Launch) (hl9 : l.stackTraces = false) {b : Nat} {xs : Nat → Int32} (dC : Nat → ClassId) (dI : Nat → Nat → Nat) (ca : Nat → ClassId)
    (hx : p.tables.exec = Jvm.exec) (hb : c.code = cL_law) (hml : c.maxLocals = 9) (hown : s.vm.findClass RL = some m.cls) (hts : ∀ w ∈ wsL_law, w.before #[Value.ref b] s = true) (hX : va_X b 6 xs s s.heap) (hbl : b < s.heap.size) (hK : va_K (dC, dI) vwCl (lt9 ca) s) (hN : z_N zw_nest s) (hAO : va_AOA .int s) (hEx : zEx9 (fun q => s.heap.size ≤ q) s)
    (sf mo ob : Nat) (ad ad2 ar : Nat → Nat) (hI : z_I zd ad) (hI2 : z_I zd ad2) (hq : zSep sf ad ad2) (hA2 : ∀ q, zA2 ad ad2 q → s.heap.size ≤ q ∧ q < mo) (hIr : z_I yd ar) (hrb : ∀ i, yd.1 i < 200 → mo < ar i ∧ ar i < ob) (hmo : s.heap.size ≤ mo) (hob : mo < ob)
    (H : Heap) (locs : List Loc) (ls : Array Slot) (hl : lv_has ls 9 [(4, .int 0), (3, .ref ob), (2, .ref mo), (1, .ref sf), (0, .ref b)]) (hT : zT dC dI ca sf (ad 0) (ad2 0) H) (hC1 : zW dC dI ca ad zMi H) (hC2 : zW dC dI ca ad2 zMi H) (hMo : yMo dC dI mo 0 (ar 0) 0 H) (hR : yW dC dI ca ar (yM 0) H) (hO : yO dC dI ca ob (fun _ => 0) H) (hS : va_S (fun q => s.heap.size ≤ q) s.heap H locs)
    (hJ : ∀ (H : Heap) (locs : List Loc) (ls : Array Slot), lv_has ls 9 [(4, .int 0), (3, .ref ob), (2, .ref mo), (1, .ref sf), (0, .ref b)] → va_S (fun q => s.heap.size ≤ q) s.heap H locs → W p l e room_1 s m #[Value.ref b] below meth c H locs 656031 7134144 Q (F0 m 1716 ls [])) : W p l e room_1 s m #[Value.ref b] below meth c H locs 146 780 Q (F0 m 1646 ls []) := by
  have hbA : ¬ (fun q => s.heap.size ≤ q) b := Nat.not_le.mpr hbl
  have hK5 : va_K (dC, dI) vwCl (zt ca) s := va_K.sub hK [0, 1, 2, 3, 4] rfl
  have hK9 : va_K (dC, dI) vwCl (yt ca) s := va_K.sub hK [0, 5] rfl
  have hmr : ∀ i, yd.1 i < 200 → ar i ≠ mo := fun i hi => by have h1 := hrb i hi; omega
  have hob2 : ¬ zA2 ad ad2 ob := fun h => by have h1 := hA2 _ h; omega
  have hAz : ∀ q, zA2 ad ad2 q → (fun q => s.heap.size ≤ q) q := fun q h => (hA2 q h).1
  have hAo : ∀ q, zAo ad ad2 ob q → (fun q => s.heap.size ≤ q) q := by
    rintro q (h | h)
    · exact (hA2 q h).1
    · rw [h]; show s.heap.size ≤ ob; omega
  have hmoA : ¬ zAo ad ad2 ob mo := by
    rintro (h | h)
    · have h1 := hA2 _ h; omega
    · omega
  have hrA : ∀ i, yd.1 i < 200 → ¬ zAo ad ad2 ob (ar i) := fun i hi => by
    have h2 := hrb i hi
    rintro (h | h)
    · have h1 := hA2 _ h; omega
    · omega
  by_cases h : z_rg (xs 1) 1 12
  · obtain ⟨K, hK1, hK2, hK3⟩ := z_ix_rg h (by decide) (by decide)
    have hk30 : K ≤ 30 := Nat.le_trans (Nat.le_of_lt_succ (show K < 13 from hK1)) (by decide)
    rw [hK3] at h
    refine lv_aload_n hx hb dL_law_1646 rfl (lv_at hl 3 rfl) ?_
    refine lv_aload_n hx hb dL_law_1647 rfl (lv_at hl 4 rfl) ?_
    refine lv_iload hx hb dL_law_1648 (lv_at hl 0 rfl) ?_
    refine lv_iconst (v := 1) hx hb dL_law_1650 (by decide) ?_
    refine lv_iadd hx hb dL_law_1651 ?_
    refine y_num (b := 1) (by decide) ?_
    refine va_sld hx hb hX hbl hbA hS (show vp_in 1 6 from zx (n := 1) rfl (by decide) (by decide)) dL_law_1652 ?_
    refine y_num (b := (nI K)) (show xs 1 = (nI K) from hK3) ?_
    refine lv_aload_n hx hb dL_law_1653 rfl (lv_at hl 1 rfl) ?_
    refine z_cW (D := (dC, dI)) (cl := vwCl) (tys := lt9 ca) (nw := zw_nest) (av := [.ref sf, .int (nI K), .ref ob]) (rest := []) ⟨hx, hb, hml, hown, hts⟩ (m_L_bestValvesy l dC dI ca sf ad hI ad2 hI2 hq ob hob2 (fun _ => 0) zMi zMi (nI K) zOkMi h (Or.inr rfl)) (vx_cwSW 3 hts gL_law_L_bestValves rfl rfl rfl (by decide +kernel) ⟨Nat.le_of_ble_eq_true rfl, Nat.le_of_ble_eq_true rfl⟩) ⟨⟨hT, hC1, hC2⟩, hO⟩ hK hN zw_nest_ok rfl hl.1 rfl (Nat.le_of_ble_eq_true rfl) dL_law_1654 ⟨(by show 146 + 0 ≤ 656031; omega), (by show 780 + 0 ≤ 7134144; omega)⟩ hS hAo (fun H locs hB1 oq1 hz1 hS => ?_)
    have hO := hB1
    rw [vX_bestValves hk30] at hO
    have hMo := va_at.kept hMo (oq1 _ (va_at.lt hMo) hmoA)
    have hR := hR.kept (fun i hi => oq1 _ (hR.lt hi) (hrA i hi))
    refine lv_istore (lv' := [(5, .int 0), (4, .int 0), (3, .ref ob), (2, .ref mo), (1, .ref sf), (0, .ref b)]) hx hb dL_law_1657 hl (by decide) rfl (fun ls hl => ?_)
    refine lv_aload_n hx hb dL_law_1659 rfl (lv_at hl 3 rfl) ?_
    refine lv_aload_n hx hb dL_law_1660 rfl (lv_at hl 5 rfl) ?_
    refine lv_iload hx hb dL_law_1661 (lv_at hl 1 rfl) ?_
    refine lv_iconst (v := 1) hx hb dL_law_1663 (by decide) ?_
    refine lv_iadd hx hb dL_law_1664 ?_
    refine y_num (b := 1) (by decide) ?_
    refine va_sld hx hb hX hbl hbA hS (show vp_in 1 6 from zx (n := 1) rfl (by decide) (by decide)) dL_law_1665 ?_
    refine y_num (b := (nI K)) (show xs 1 = (nI K) from hK3) ?_
    refine y_cVi (D := (dC, dI)) (cl := vwCl) (tys := yt ca) (nw := zw_nest) (C := RX10) (As := [.int (nI K)]) (rest := []) ⟨hx, hb, hml, hown, hts⟩ (m_X10_bestValvesy l dC dI ca mo _ ar hIr hmr 0 0 K hk30 h) (cwV 1 hts gL_law_X10_bestValves rfl rfl rfl (by decide +kernel) ⟨Nat.le_of_ble_eq_true rfl, Nat.le_of_ble_eq_true rfl⟩) (va_recv hK9 (y_one hMo) (ci := 10) rfl (q0 := 0) rfl) ⟨rfl, hMo, hR⟩ hK9 hN hAO zw_nest_ok rfl hl.1 rfl (Nat.le_of_ble_eq_true rfl) dL_law_1666 ⟨(by show 146 + 656 ≤ 656031; omega), (by show 780 + 4064 ≤ 7134144; omega)⟩ hS (yA_law hmo (fun i hi => Nat.le_trans hmo (Nat.le_of_lt (hrb i hi).1)) hS.1) (fun H locs hB1 oq1 hz1 hS => ?_)
    have hO := va_at.kept hO (oq1 _ (va_at.lt hO) (yA_ob hob hrb (va_at.lt hO)))
    have hMo := hB1
    refine lv_istore (lv' := [(6, .int 0), (5, .int 0), (4, .int 0), (3, .ref ob), (2, .ref mo), (1, .ref sf), (0, .ref b)]) hx hb dL_law_1669 hl (by decide) rfl (fun ls hl => ?_)
    refine lv_aload_n hx hb dL_law_1671 rfl (lv_at hl 4 rfl) ?_
    refine y_cVi (D := (dC, dI)) (cl := vwCl) (tys := yt ca) (nw := zw_nest) (C := RX10) (As := []) (rest := []) ⟨hx, hb, hml, hown, hts⟩ (m_X10_thrown0 l dC dI ca mo (ar 0) 0 0) (cwV 0 hts gL_law_X10_thrown rfl rfl rfl (by decide +kernel) ⟨Nat.le_of_ble_eq_true rfl, Nat.le_of_ble_eq_true rfl⟩) (va_recv hK9 (y_one hMo) (ci := 10) rfl (q0 := 0) rfl) hMo hK9 hN hAO zw_nest_ok rfl hl.1 rfl (Nat.le_of_ble_eq_true rfl) dL_law_1672 ⟨(by show 802 + 0 ≤ 656031; omega), (by show 4844 + 0 ≤ 7134144; omega)⟩ hS (fun _ h => h.elim) (fun H locs hB1 oq1 hz1 hS => ?_)
    have hO := va_at.kept hO (oq1 _ (va_at.lt hO) (fun h => h))
    refine lv_iload hx hb dL_law_1675 (lv_at hl 1 rfl) ?_
    refine lv_icmp_eq (tgt := 1682) hx hb dL_law_1677 (by decide) (fun _ => ?_) (fun c9 => absurd rfl c9)
    refine lv_iload hx hb dL_law_1682 (lv_at hl 1 rfl) ?_
    refine lv_if_ne (tgt := 1699) hx hb dL_law_1684 (by decide) (fun c9 => absurd c9 (by decide)) (fun _ => ?_)
    refine lv_aload_n hx hb dL_law_1687 rfl (lv_at hl 3 rfl) ?_
    refine lv_iconst (v := 0) hx hb dL_law_1688 (by decide) ?_
    refine va_lald hx hb hK (y_one hO) 0 6 rfl rfl (zx (n := 0) (N := 1) (x := 0) rfl (by decide) (by decide)) dL_law_1689 ?_
    refine y_lng (b := (0 : Int32).toInt64) rfl ?_
    refine lv_iload hx hb dL_law_1690 (lv_at hl 0 rfl) ?_
    refine lv_i2l hx hb dL_law_1692 rfl ?_
    refine W.lcmp hx hb dL_law_1693 ?_
    refine y_num (b := 0) (lg_self _) ?_
    refine lv_if_eq (tgt := 1699) hx hb dL_law_1694 (by decide) (fun _ => ?_) (fun c9 => absurd rfl c9)
    refine lv_goto (tgt := 1716) hx hb dL_law_1699 (by decide) ?_
    refine W.widen (k := 656031) (n := 7134144) (by show 802 ≤ 656031; omega) (by show 4844 ≤ 7134144; omega) ?_
    exact hJ _ _ _ (lv_sub hl [2, 3, 4, 5, 6] rfl) hS
  · skip
    refine lv_aload_n hx hb dL_law_1646 rfl (lv_at hl 3 rfl) ?_
    refine lv_aload_n hx hb dL_law_1647 rfl (lv_at hl 4 rfl) ?_
    refine lv_iload hx hb dL_law_1648 (lv_at hl 0 rfl) ?_
    refine lv_iconst (v := 1) hx hb dL_law_1650 (by decide) ?_
    refine lv_iadd hx hb dL_law_1651 ?_
    refine y_num (b := 1) (by decide) ?_
    refine va_sld hx hb hX hbl hbA hS (show vp_in 1 6 from zx (n := 1) rfl (by decide) (by decide)) dL_law_1652 ?_
    refine y_num (b := (xs 1)) (show xs 1 = (xs 1) from rfl) ?_
    refine lv_aload_n hx hb dL_law_1653 rfl (lv_at hl 1 rfl) ?_
    refine z_cWx (D := (dC, dI)) (cl := vwCl) (tys := lt9 ca) (nw := zw_nest) (av := [.ref sf, .int (xs 1), .ref ob]) (rest := []) ⟨hx, hb, hml, hown, hts⟩ (m_L_bestValvesx l hl9 dC dI ca sf ad ad2 ob zMi zMi (xs 1) h) (vx_cwSW 3 hts gL_law_L_bestValves rfl rfl rfl (by decide +kernel) ⟨Nat.le_of_ble_eq_true rfl, Nat.le_of_ble_eq_true rfl⟩) ⟨hT, hC1, hC2⟩ hK hN hEx zw_nest_ok rfl hl.1 rfl (Nat.le_of_ble_eq_true rfl) dL_law_1654 ⟨(by show 146 + 1 ≤ 656031; omega), (by show 780 + 6 ≤ 7134144; omega)⟩ hS (fun H locs oq1 hz1 hS => ?_)
    have hMo := va_at.kept hMo (oq1 _ (va_at.lt hMo))
    have hR := hR.kept (fun i hi => oq1 _ (hR.lt hi))
    have hO := va_at.kept hO (oq1 _ (va_at.lt hO))
    refine lv_istore (lv' := [(5, .int 1), (4, .int 0), (3, .ref ob), (2, .ref mo), (1, .ref sf), (0, .ref b)]) hx hb dL_law_1657 hl (by decide) rfl (fun ls hl => ?_)
    refine lv_aload_n hx hb dL_law_1659 rfl (lv_at hl 3 rfl) ?_
    refine lv_aload_n hx hb dL_law_1660 rfl (lv_at hl 5 rfl) ?_
    refine lv_iload hx hb dL_law_1661 (lv_at hl 1 rfl) ?_
    refine lv_iconst (v := 1) hx hb dL_law_1663 (by decide) ?_
    refine lv_iadd hx hb dL_law_1664 ?_
    refine y_num (b := 1) (by decide) ?_
    refine va_sld hx hb hX hbl hbA hS (show vp_in 1 6 from zx (n := 1) rfl (by decide) (by decide)) dL_law_1665 ?_
    refine y_num (b := (xs 1)) (show xs 1 = (xs 1) from rfl) ?_
    refine y_cVi (D := (dC, dI)) (cl := vwCl) (tys := yt ca) (nw := zw_nest) (C := RX10) (As := [.int (xs 1)]) (rest := []) ⟨hx, hb, hml, hown, hts⟩ (m_X10_bestValvesn l dC dI ca mo _ ar hIr hmr 0 0 (xs 1) h) (cwV 1 hts gL_law_X10_bestValves rfl rfl rfl (by decide +kernel) ⟨Nat.le_of_ble_eq_true rfl, Nat.le_of_ble_eq_true rfl⟩) (va_recv hK9 (y_one hMo) (ci := 10) rfl (q0 := 0) rfl) ⟨rfl, hMo, hR⟩ hK9 hN hAO zw_nest_ok rfl hl.1 rfl (Nat.le_of_ble_eq_true rfl) dL_law_1666 ⟨(by show 147 + 0 ≤ 656031; omega), (by show 786 + 0 ≤ 7134144; omega)⟩ hS (yA_law hmo (fun i hi => Nat.le_trans hmo (Nat.le_of_lt (hrb i hi).1)) hS.1) (fun H locs hB1 oq1 hz1 hS => ?_)
    have hO := va_at.kept hO (oq1 _ (va_at.lt hO) (yA_ob hob hrb (va_at.lt hO)))
    obtain ⟨hMo, hR⟩ := hB1
    refine lv_istore (lv' := [(6, .int 0), (5, .int 1), (4, .int 0), (3, .ref ob), (2, .ref mo), (1, .ref sf), (0, .ref b)]) hx hb dL_law_1669 hl (by decide) rfl (fun ls hl => ?_)
    refine lv_aload_n hx hb dL_law_1671 rfl (lv_at hl 4 rfl) ?_
    refine y_cVi (D := (dC, dI)) (cl := vwCl) (tys := yt ca) (nw := zw_nest) (C := RX10) (As := []) (rest := []) ⟨hx, hb, hml, hown, hts⟩ (m_X10_thrown0 l dC dI ca mo (ar 0) 1 0) (cwV 0 hts gL_law_X10_thrown rfl rfl rfl (by decide +kernel) ⟨Nat.le_of_ble_eq_true rfl, Nat.le_of_ble_eq_true rfl⟩) (va_recv hK9 (y_one hMo) (ci := 10) rfl (q0 := 0) rfl) hMo hK9 hN hAO zw_nest_ok rfl hl.1 rfl (Nat.le_of_ble_eq_true rfl) dL_law_1672 ⟨(by show 147 + 0 ≤ 656031; omega), (by show 786 + 0 ≤ 7134144; omega)⟩ hS (fun _ h => h.elim) (fun H locs hB1 oq1 hz1 hS => ?_)
    have hO := va_at.kept hO (oq1 _ (va_at.lt hO) (fun h => h))
    refine lv_iload hx hb dL_law_1675 (lv_at hl 1 rfl) ?_
    refine lv_icmp_eq (tgt := 1682) hx hb dL_law_1677 (by decide) (fun _ => ?_) (fun c9 => absurd rfl c9)
    refine lv_iload hx hb dL_law_1682 (lv_at hl 1 rfl) ?_
    refine lv_if_ne (tgt := 1699) hx hb dL_law_1684 (by decide) (fun _ => ?_) (fun c9 => absurd c9 (by decide))
    refine lv_goto (tgt := 1716) hx hb dL_law_1699 (by decide) ?_
    refine W.widen (k := 656031) (n := 7134144) (by show 147 ≤ 656031; omega) (by show 786 ≤ 7134144; omega) ?_
    exact hJ _ _ _ (lv_sub hl [2, 3, 4, 5, 6] rfl) hS
set_option maxHeartbeats 4000000 in
set_option maxRecDepth 100000 in
theorem la_digest {p : Program} {e : Env} {s : State} {m : MethodId} {below : List Frame} {meth : Method} {c : Code} {Q : State → Prop} (l : Launch) (hl9 : l.stackTraces = false) {b : Nat} {xs : Nat → Int32} (dC : Nat → ClassId) (dI : Nat → Nat → Nat) (ca : Nat → ClassId)
    (hx : p.tables.exec = Jvm.exec) (hb : c.code = cL_law) (hml : c.maxLocals = 9) (hown : s.vm.findClass RL = some m.cls) (hts : ∀ w ∈ wsL_law, w.before #[Value.ref b] s = true) (hX : va_X b 6 xs s s.heap) (hbl : b < s.heap.size) (hK : va_K (dC, dI) vwCl (lt9 ca) s) (hN : z_N zw_nest s) (hAO : va_AOA .int s) (hEx : zEx9 (fun q => s.heap.size ≤ q) s)
    (sf mo ob : Nat) (ad ad2 ar : Nat → Nat) (hI : z_I zd ad) (hI2 : z_I zd ad2) (hq : zSep sf ad ad2) (hA2 : ∀ q, zA2 ad ad2 q → s.heap.size ≤ q ∧ q < mo) (hIr : z_I yd ar) (hrb : ∀ i, yd.1 i < 200 → mo < ar i ∧ ar i < ob) (hmo : s.heap.size ≤ mo) (hob : mo < ob)
    (H : Heap) (locs : List Loc) (ls : Array Slot) (hl : lv_has ls 9 [(4, .int 0), (3, .ref ob), (2, .ref mo), (1, .ref sf), (0, .ref b)]) (hT : zT dC dI ca sf (ad 0) (ad2 0) H) (hC1 : zW dC dI ca ad zMi H) (hC2 : zW dC dI ca ad2 zMi H) (hMo : yMo dC dI mo 0 (ar 0) 0 H) (hR : yW dC dI ca ar (yM 0) H) (hO : yO dC dI ca ob (fun _ => 0) H) (hS : va_S (fun q => s.heap.size ≤ q) s.heap H locs)
    (hJ : ∀ (H : Heap) (locs : List Loc) (ls : Array Slot), lv_has ls 9 [(4, .int 0), (3, .ref ob), (2, .ref mo), (1, .ref sf), (0, .ref b)] → va_S (fun q => s.heap.size ≤ q) s.heap H locs → W p l e room_1 s m #[Value.ref b] below meth c H locs 656031 7134144 Q (F0 m 1716 ls [])) : W p l e room_1 s m #[Value.ref b] below meth c H locs 146 780 Q (F0 m 1702 ls []) := by
  have hbA : ¬ (fun q => s.heap.size ≤ q) b := Nat.not_le.mpr hbl
  have hK5 : va_K (dC, dI) vwCl (zt ca) s := va_K.sub hK [0, 1, 2, 3, 4] rfl
  have hK9 : va_K (dC, dI) vwCl (yt ca) s := va_K.sub hK [0, 5] rfl
  have hmr : ∀ i, yd.1 i < 200 → ar i ≠ mo := fun i hi => by have h1 := hrb i hi; omega
  have hob2 : ¬ zA2 ad ad2 ob := fun h => by have h1 := hA2 _ h; omega
  have hAz : ∀ q, zA2 ad ad2 q → (fun q => s.heap.size ≤ q) q := fun q h => (hA2 q h).1
  have hAo : ∀ q, zAo ad ad2 ob q → (fun q => s.heap.size ≤ q) q := by
    rintro q (h | h)
    · exact (hA2 q h).1
    · rw [h]; show s.heap.size ≤ ob; omega
  have hmoA : ¬ zAo ad ad2 ob mo := by
    rintro (h | h)
    · have h1 := hA2 _ h; omega
    · omega
  have hrA : ∀ i, yd.1 i < 200 → ¬ zAo ad ad2 ob (ar i) := fun i hi => by
    have h2 := hrb i hi
    rintro (h | h)
    · have h1 := hA2 _ h; omega
    · omega
  refine lv_aload_n hx hb dL_law_1702 rfl (lv_at hl 3 rfl) ?_
  refine z_cVl (D := (dC, dI)) (cl := vwCl) (tys := zt ca) (nw := zw_nest) (C := RX8) (As := []) (rest := []) ⟨hx, hb, hml, hown, hts⟩ (m_X8_digest l dC dI ca sf ad hI ad2 hI2 hq zMi zMi zOkMi (Or.inr rfl)) (cwV 0 hts gL_law_X8_digest rfl rfl rfl (by decide +kernel) ⟨Nat.le_of_ble_eq_true rfl, Nat.le_of_ble_eq_true rfl⟩) (z_recv (ci := 8) (i := 0) hK5 hT rfl (by decide) rfl) ⟨hT, hC1, hC2⟩ hK5 hN zw_nest_ok rfl hl.1 rfl (Nat.le_of_ble_eq_true rfl) dL_law_1703 ⟨(by show 146 ≤ 656031; omega), (by show 780 ≤ 7134144; omega)⟩ hS hAz (fun H locs hB1 oq1 hz1 hS => ?_)
  have hMo := va_at.kept hMo (oq1 _ (va_at.lt hMo) (fun h => by have h1 := hA2 _ h; omega))
  have hR := hR.kept (fun i hi => oq1 _ (hR.lt hi) (fun h => by have h1 := hA2 _ h; have h2 := hrb i hi; omega))
  have hO := va_at.kept hO (oq1 _ (va_at.lt hO) hob2)
  refine y_lng (b := (-8640506924048327797)) vX_digest ?_
  refine lv_aload_n hx hb dL_law_1706 rfl (lv_at hl 2 rfl) ?_
  refine y_cVl (D := (dC, dI)) (cl := vwCl) (tys := yt ca) (nw := zw_nest) (C := RX10) (As := []) (rest := [.long (-8640506924048327797)]) ⟨hx, hb, hml, hown, hts⟩ (m_X10_digest l dC dI ca mo _ ar hIr hmr 0 0  ) (cwV 0 hts gL_law_X10_digest rfl rfl rfl (by decide +kernel) ⟨Nat.le_of_ble_eq_true rfl, Nat.le_of_ble_eq_true rfl⟩) (va_recv hK9 (y_one hMo) (ci := 10) rfl (q0 := 0) rfl) ⟨rfl, hMo, hR⟩ hK9 hN hAO zw_nest_ok rfl hl.1 rfl (Nat.le_of_ble_eq_true rfl) dL_law_1707 ⟨(by show 146 + 724 ≤ 656031; omega), (by show 780 + 4585 ≤ 7134144; omega)⟩ hS (yA_law hmo (fun i hi => Nat.le_trans hmo (Nat.le_of_lt (hrb i hi).1)) hS.1) (fun H locs hB1 oq1 hz1 hS => ?_)
  have hO := va_at.kept hO (oq1 _ (va_at.lt hO) (yA_ob hob hrb (va_at.lt hO)))
  obtain ⟨hMo, hR⟩ := hB1
  refine W.lcmp hx hb dL_law_1710 ?_
  refine y_num (b := 0) (lg_self _) ?_
  refine lv_if_eq (tgt := 1716) hx hb dL_law_1711 (by decide) (fun _ => ?_) (fun c9 => absurd rfl c9)
  refine W.widen (k := 656031) (n := 7134144) (by show 870 ≤ 656031; omega) (by show 5365 ≤ 7134144; omega) ?_
  exact hJ _ _ _ (lv_sub hl [0, 1, 2, 3, 4] rfl) hS
