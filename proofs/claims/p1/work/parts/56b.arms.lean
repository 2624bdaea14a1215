set_option maxHeartbeats 4000000 in
set_option maxRecDepth 100000 in
theorem la_run {p : Program} {e : Env} {s : State} {m : MethodId} {below : List Frame} {meth : Method} {c : Code} {Q : State → Prop} (l : Launch) (hl9 : l.stackTraces = false) {b : Nat} {xs : Nat → Int32} (dC : Nat → ClassId) (dI : Nat → Nat → Nat) (ca : Nat → ClassId)
    (hx : p.tables.exec = Jvm.exec) (hb : c.code = cL_law) (hml : c.maxLocals = 9) (hown : s.vm.findClass RL = some m.cls) (hts : ∀ w ∈ wsL_law, w.before #[Value.ref b] s = true) (hX : va_X b 6 xs s s.heap) (hbl : b < s.heap.size) (hK : va_K (dC, dI) vwCl (lt9 ca) s) (hN : z_N zw_nest s) (hAO : va_AOA .int s) (hEx : zEx9 (fun q => s.heap.size ≤ q) s)
    (sf mo ob : Nat) (ad ad2 ar : Nat → Nat) (hI : z_I zd ad) (hI2 : z_I zd ad2) (hq : zSep sf ad ad2) (hA2 : ∀ q, zA2 ad ad2 q → s.heap.size ≤ q ∧ q < mo) (hIr : z_I yd ar) (hrb : ∀ i, yd.1 i < 200 → mo < ar i ∧ ar i < ob) (hmo : s.heap.size ≤ mo) (hob : mo < ob)
    (H : Heap) (locs : List Loc) (ls : Array Slot) (hl : lv_has ls 9 [(4, .int 0), (3, .ref ob), (2, .ref mo), (1, .ref sf), (0, .ref b)]) (hT : zT dC dI ca sf (ad 0) (ad2 0) H) (hC1 : zW dC dI ca ad zMi H) (hC2 : zW dC dI ca ad2 zMi H) (hMo : yMo dC dI mo 0 (ar 0) 0 H) (hR : yW dC dI ca ar (yM 0) H) (hO : yO dC dI ca ob (fun _ => 0) H) (hS : va_S (fun q => s.heap.size ≤ q) s.heap H locs)
    (hJ : ∀ (H : Heap) (locs : List Loc) (ls : Array Slot), lv_has ls 9 [(4, .int 0), (3, .ref ob), (2, .ref mo), (1, .ref sf), (0, .ref b)] → va_S (fun q => s.heap.size ≤ q) s.heap H locs → W p l e room_1 s m #[Value.ref b] below meth c H locs 656031 7134144 Q (F0 m 1716 ls [])) : W p l e room_1 s m #[Value.ref b] below meth c H locs 146 780 Q (F0 m 808 ls []) := by
  have hbA : ¬ (fun q => s.heap.size ≤ q) b := Nat.not_le.mpr hbl
  have hK5 : va_K (dC, dI) vwCl (zt ca) s := va_K.sub hK [0, 1, 2, 3, 4] rfl
  have hK9 : va_K (dC, dI) vwCl (yt ca) s := va_K.sub hK [0, 5] rfl
  have hmr : ∀ i, yd.1 i < 200 → ar i ≠ mo := fun i hi => by have h1 := hrb i hi; omega
  have hob2 : ¬ zA2 ad ad2 ob := fun h => by have h1 := hA2 _ h; omega
  have hAz : ∀ q, zA2 ad ad2 q → (fun q => s.heap.size ≤ q) q := fun q h => (hA2 q h).1
  have hAo : ∀ q, zAo ad ad2 ob q → (fun q => s.heap.size ≤ q) q := by
    rintro q (h | h)
    · exact (hA2 q h).1
    · rw [h]; show s.heap.size ≤ ob; omega
  have hmoA : ¬ zAo ad ad2 ob mo := by
    rintro (h | h)
    · have h1 := hA2 _ h; omega
    · omega
  have hrA : ∀ i, yd.1 i < 200 → ¬ zAo ad ad2 ob (ar i) := fun i hi => by
    have h2 := hrb i hi
    rintro (h | h)
    · have h1 := hA2 _ h; omega
    · omega
  by_cases h : z_rg (xs 1) 1 30
  · obtain ⟨K, hK1, hK2, hK3⟩ := z_ix_rg h (by decide) (by decide)
    have hk30 : K ≤ 30 := Nat.le_trans (Nat.le_of_lt_succ (show K < 31 from hK1)) (by decide)
    rw [hK3] at h
    refine lv_aload_n hx hb dL_law_808 rfl (lv_at hl 3 rfl) ?_
    refine lv_aload_n hx hb dL_law_809 rfl (lv_at hl 4 rfl) ?_
    refine lv_iload hx hb dL_law_810 (lv_at hl 0 rfl) ?_
    refine lv_iconst (v := 1) hx hb dL_law_812 (by decide) ?_
    refine lv_iadd hx hb dL_law_813 ?_
    refine y_num (b := 1) (by decide) ?_
    refine va_sld hx hb hX hbl hbA hS (show vp_in 1 6 from zx (n := 1) rfl (by decide) (by decide)) dL_law_814 ?_
    refine y_num (b := (nI K)) (show xs 1 = (nI K) from hK3) ?_
    refine lv_aload_n hx hb dL_law_815 rfl (lv_at hl 1 rfl) ?_
    refine z_cW (D := (dC, dI)) (cl := vwCl) (tys := lt9 ca) (nw := zw_nest) (av := [.ref sf, .int (nI K), .ref ob]) (rest := []) ⟨hx, hb, hml, hown, hts⟩ (m_L_runy l dC dI ca sf ad hI ad2 hI2 hq ob hob2 (fun _ => 0) zMi zMi (nI K) zOkMi h) (vx_cwSW 3 hts gL_law_L_run rfl rfl rfl (by decide +kernel) ⟨Nat.le_of_ble_eq_true rfl, Nat.le_of_ble_eq_true rfl⟩) ⟨⟨hT, hC1, hC2⟩, hO⟩ hK hN zw_nest_ok rfl hl.1 rfl (Nat.le_of_ble_eq_true rfl) dL_law_816 ⟨(by show 146 + 0 ≤ 656031; omega), (by show 780 + 0 ≤ 7134144; omega)⟩ hS hAo (fun H locs hB1 oq1 hz1 hS => ?_)
    have hO := hB1
    rw [vX_run hk30] at hO
    have hMo := va_at.kept hMo (oq1 _ (va_at.lt hMo) hmoA)
    have hR := hR.kept (fun i hi => oq1 _ (hR.lt hi) (hrA i hi))
    refine lv_istore (lv' := [(5, .int 0), (4, .int 0), (3, .ref ob), (2, .ref mo), (1, .ref sf), (0, .ref b)]) hx hb dL_law_819 hl (by decide) rfl (fun ls hl => ?_)
    refine lv_aload_n hx hb dL_law_821 rfl (lv_at hl 3 rfl) ?_
    refine lv_aload_n hx hb dL_law_822 rfl (lv_at hl 5 rfl) ?_
    refine lv_iload hx hb dL_law_823 (lv_at hl 1 rfl) ?_
    refine lv_iconst (v := 1) hx hb dL_law_825 (by decide) ?_
    refine lv_iadd hx hb dL_law_826 ?_
    refine y_num (b := 1) (by decide) ?_
    refine va_sld hx hb hX hbl hbA hS (show vp_in 1 6 from zx (n := 1) rfl (by decide) (by decide)) dL_law_827 ?_
    refine y_num (b := (nI K)) (show xs 1 = (nI K) from hK3) ?_
    refine y_cVi (D := (dC, dI)) (cl := vwCl) (tys := yt ca) (nw := zw_nest) (C := RX10) (As := [.int (nI K)]) (rest := []) ⟨hx, hb, hml, hown, hts⟩ (m_X10_runy l dC dI ca mo _ ar hIr hmr 0 0 K hk30 h) (cwV 1 hts gL_law_X10_run rfl rfl rfl (by decide +kernel) ⟨Nat.le_of_ble_eq_true rfl, Nat.le_of_ble_eq_true rfl⟩) (va_recv hK9 (y_one hMo) (ci := 10) rfl (q0 := 0) rfl) ⟨rfl, hMo, hR⟩ hK9 hN hAO zw_nest_ok rfl hl.1 rfl (Nat.le_of_ble_eq_true rfl) dL_law_828 ⟨(by show 146 + 0 ≤ 656031; omega), (by show 780 + 0 ≤ 7134144; omega)⟩ hS (yA_law hmo (fun i hi => Nat.le_trans hmo (Nat.le_of_lt (hrb i hi).1)) hS.1) (fun H locs hB1 oq1 hz1 hS => ?_)
    have hO := va_at.kept hO (oq1 _ (va_at.lt hO) (yA_ob hob hrb (va_at.lt hO)))
    have hMo := hB1
    refine lv_istore (lv' := [(6, .int 0), (5, .int 0), (4, .int 0), (3, .ref ob), (2, .ref mo), (1, .ref sf), (0, .ref b)]) hx hb dL_law_831 hl (by decide) rfl (fun ls hl => ?_)
    refine lv_aload_n hx hb dL_law_833 rfl (lv_at hl 4 rfl) ?_
    refine y_cVi (D := (dC, dI)) (cl := vwCl) (tys := yt ca) (nw := zw_nest) (C := RX10) (As := []) (rest := []) ⟨hx, hb, hml, hown, hts⟩ (m_X10_thrown0 l dC dI ca mo (ar 0) 0 0) (cwV 0 hts gL_law_X10_thrown rfl rfl rfl (by decide +kernel) ⟨Nat.le_of_ble_eq_true rfl, Nat.le_of_ble_eq_true rfl⟩) (va_recv hK9 (y_one hMo) (ci := 10) rfl (q0 := 0) rfl) hMo hK9 hN hAO zw_nest_ok rfl hl.1 rfl (Nat.le_of_ble_eq_true rfl) dL_law_834 ⟨(by show 146 + 0 ≤ 656031; omega), (by show 780 + 0 ≤ 7134144; omega)⟩ hS (fun _ h => h.elim) (fun H locs hB1 oq1 hz1 hS => ?_)
    have hO := va_at.kept hO (oq1 _ (va_at.lt hO) (fun h => h))
    refine lv_iload hx hb dL_law_837 (lv_at hl 1 rfl) ?_
    refine lv_icmp_eq (tgt := 844) hx hb dL_law_839 (by decide) (fun _ => ?_) (fun c9 => absurd rfl c9)
    refine lv_iload hx hb dL_law_844 (lv_at hl 1 rfl) ?_
    refine lv_if_ne (tgt := 861) hx hb dL_law_846 (by decide) (fun c9 => absurd c9 (by decide)) (fun _ => ?_)
    refine lv_aload_n hx hb dL_law_849 rfl (lv_at hl 3 rfl) ?_
    refine lv_iconst (v := 0) hx hb dL_law_850 (by decide) ?_
    refine va_lald hx hb hK (y_one hO) 0 6 rfl rfl (zx (n := 0) (N := 1) (x := 0) rfl (by decide) (by decide)) dL_law_851 ?_
    refine y_lng (b := (0 : Int32).toInt64) rfl ?_
    refine lv_iload hx hb dL_law_852 (lv_at hl 0 rfl) ?_
    refine lv_i2l hx hb dL_law_854 rfl ?_
    refine W.lcmp hx hb dL_law_855 ?_
    refine y_num (b := 0) (lg_self _) ?_
    refine lv_if_eq (tgt := 861) hx hb dL_law_856 (by decide) (fun _ => ?_) (fun c9 => absurd rfl c9)
    refine lv_goto (tgt := 1716) hx hb dL_law_861 (by decide) ?_
    refine W.widen (k := 656031) (n := 7134144) (by show 146 ≤ 656031; omega) (by show 780 ≤ 7134144; omega) ?_
    exact hJ _ _ _ (lv_sub hl [2, 3, 4, 5, 6] rfl) hS
  · skip
    refine lv_aload_n hx hb dL_law_808 rfl (lv_at hl 3 rfl) ?_
    refine lv_aload_n hx hb dL_law_809 rfl (lv_at hl 4 rfl) ?_
    refine lv_iload hx hb dL_law_810 (lv_at hl 0 rfl) ?_
    refine lv_iconst (v := 1) hx hb dL_law_812 (by decide) ?_
    refine lv_iadd hx hb dL_law_813 ?_
    refine y_num (b := 1) (by decide) ?_
    refine va_sld hx hb hX hbl hbA hS (show vp_in 1 6 from zx (n := 1) rfl (by decide) (by decide)) dL_law_814 ?_
    refine y_num (b := (xs 1)) (show xs 1 = (xs 1) from rfl) ?_
    refine lv_aload_n hx hb dL_law_815 rfl (lv_at hl 1 rfl) ?_
    refine z_cWx (D := (dC, dI)) (cl := vwCl) (tys := lt9 ca) (nw := zw_nest) (av := [.ref sf, .int (xs 1), .ref ob]) (rest := []) ⟨hx, hb, hml, hown, hts⟩ (m_L_runx l hl9 dC dI ca sf ad ad2 ob zMi zMi (xs 1) h) (vx_cwSW 3 hts gL_law_L_run rfl rfl rfl (by decide +kernel) ⟨Nat.le_of_ble_eq_true rfl, Nat.le_of_ble_eq_true rfl⟩) ⟨hT, hC1, hC2⟩ hK hN hEx zw_nest_ok rfl hl.1 rfl (Nat.le_of_ble_eq_true rfl) dL_law_816 ⟨(by show 146 + 1 ≤ 656031; omega), (by show 780 + 6 ≤ 7134144; omega)⟩ hS (fun H locs oq1 hz1 hS => ?_)
    have hMo := va_at.kept hMo (oq1 _ (va_at.lt hMo))
    have hR := hR.kept (fun i hi => oq1 _ (hR.lt hi))
    have hO := va_at.kept hO (oq1 _ (va_at.lt hO))
    refine lv_istore (lv' := [(5, .int 1), (4, .int 0), (3, .ref ob), (2, .ref mo), (1, .ref sf), (0, .ref b)]) hx hb dL_law_819 hl (by decide) rfl (fun ls hl => ?_)
    refine lv_aload_n hx hb dL_law_821 rfl (lv_at hl 3 rfl) ?_
    refine lv_aload_n hx hb dL_law_822 rfl (lv_at hl 5 rfl) ?_
    refine lv_iload hx hb dL_law_823 (lv_at hl 1 rfl) ?_
    refine lv_iconst (v := 1) hx hb dL_law_825 (by decide) ?_
    refine lv_iadd hx hb dL_law_826 ?_
    refine y_num (b := 1) (by decide) ?_
    refine va_sld hx hb hX hbl hbA hS (show vp_in 1 6 from zx (n := 1) rfl (by decide) (by decide)) dL_law_827 ?_
    refine y_num (b := (xs 1)) (show xs 1 = (xs 1) from rfl) ?_
    refine y_cVi (D := (dC, dI)) (cl := vwCl) (tys := yt ca) (nw := zw_nest) (C := RX10) (As := [.int (xs 1)]) (rest := []) ⟨hx, hb, hml, hown, hts⟩ (m_X10_runn l dC dI ca mo _ ar hIr hmr 0 0 (xs 1) h) (cwV 1 hts gL_law_X10_run rfl rfl rfl (by decide +kernel) ⟨Nat.le_of_ble_eq_true rfl, Nat.le_of_ble_eq_true rfl⟩) (va_recv hK9 (y_one hMo) (ci := 10) rfl (q0 := 0) rfl) ⟨rfl, hMo, hR⟩ hK9 hN hAO zw_nest_ok rfl hl.1 rfl (Nat.le_of_ble_eq_true rfl) dL_law_828 ⟨(by show 147 + 0 ≤ 656031; omega), (by show 786 + 0 ≤ 7134144; omega)⟩ hS (yA_law hmo (fun i hi => Nat.le_trans hmo (Nat.le_of_lt (hrb i hi).1)) hS.1) (fun H locs hB1 oq1 hz1 hS => ?_)
    have hO := va_at.kept hO (oq1 _ (va_at.lt hO) (yA_ob hob hrb (va_at.lt hO)))
    obtain ⟨hMo, hR⟩ := hB1
    refine lv_istore (lv' := [(6, .int 0), (5, .int 1), (4, .int 0), (3, .ref ob), (2, .ref mo), (1, .ref sf), (0, .ref b)]) hx hb dL_law_831 hl (by decide) rfl (fun ls hl => ?_)
    refine lv_aload_n hx hb dL_law_833 rfl (lv_at hl 4 rfl) ?_
    refine y_cVi (D := (dC, dI)) (cl := vwCl) (tys := yt ca) (nw := zw_nest) (C := RX10) (As := []) (rest := []) ⟨hx, hb, hml, hown, hts⟩ (m_X10_thrown0 l dC dI ca mo (ar 0) 1 0) (cwV 0 hts gL_law_X10_thrown rfl rfl rfl (by decide +kernel) ⟨Nat.le_of_ble_eq_true rfl, Nat.le_of_ble_eq_true rfl⟩) (va_recv hK9 (y_one hMo) (ci := 10) rfl (q0 := 0) rfl) hMo hK9 hN hAO zw_nest_ok rfl hl.1 rfl (Nat.le_of_ble_eq_true rfl) dL_law_834 ⟨(by show 147 + 0 ≤ 656031; omega), (by show 786 + 0 ≤ 7134144; omega)⟩ hS (fun _ h => h.elim) (fun H locs hB1 oq1 hz1 hS => ?_)
    have hO := va_at.kept hO (oq1 _ (va_at.lt hO) (fun h => h))
    refine lv_iload hx hb dL_law_837 (lv_at hl 1 rfl) ?_
    refine lv_icmp_eq (tgt := 844) hx hb dL_law_839 (by decide) (fun _ => ?_) (fun c9 => absurd rfl c9)
    refine lv_iload hx hb dL_law_844 (lv_at hl 1 rfl) ?_
    refine lv_if_ne (tgt := 861) hx hb dL_law_846 (by decide) (fun _ => ?_) (fun c9 => absurd c9 (by decide))
    refine lv_goto (tgt := 1716) hx hb dL_law_861 (by decide) ?_
    refine W.widen (k := 656031) (n := 7134144) (by show 147 ≤ 656031; omega) (by show 786 ≤ 7134144; omega) ?_
    exact hJ _ _ _ (lv_sub hl [2, 3, 4, 5, 6] rfl) hS
set_option maxHeartbeats 4000000 in
set_option maxRecDepth 100000 in
theorem la_ofBlock {p : Program} {e : Env} {s : State} {m : MethodId} {below : List Frame} {meth : Method} {c : Code} {Q : State → Prop} (l : Launch) (hl9 : l.stackTraces = false) {b : Nat} {xs : Nat → Int32} (dC : Nat → ClassId) (dI : Nat → Nat → Nat) (ca : Nat → ClassId)
    (hx : p.tables.exec = Jvm.exec) (hb : c.code = cL_law) (hml : c.maxLocals = 9) (hown : s.vm.findClass RL = some m.cls) (hts : ∀ w ∈ wsL_law, w.before #[Value.ref b] s = true) (hX : va_X b 6 xs s s.heap) (hbl : b < s.heap.size) (hK : va_K (dC, dI) vwCl (lt9 ca) s) (hN : z_N zw_nest s) (hAO : va_AOA .int s) (hEx : zEx9 (fun q => s.heap.size ≤ q) s)
    (sf mo ob : Nat) (ad ad2 ar : Nat → Nat) (hI : z_I zd ad) (hI2 : z_I zd ad2) (hq : zSep sf ad ad2) (hA2 : ∀ q, zA2 ad ad2 q → s.heap.size ≤ q ∧ q < mo) (hIr : z_I yd ar) (hrb : ∀ i, yd.1 i < 200 → mo < ar i ∧ ar i < ob) (hmo : s.heap.size ≤ mo) (hob : mo < ob)
    (H : Heap) (locs : List Loc) (ls : Array Slot) (hl : lv_has ls 9 [(4, .int 0), (3, .ref ob), (2, .ref mo), (1, .ref sf), (0, .ref b)]) (hT : zT dC dI ca sf (ad 0) (ad2 0) H) (hC1 : zW dC dI ca ad zMi H) (hC2 : zW dC dI ca ad2 zMi H) (hMo : yMo dC dI mo 0 (ar 0) 0 H) (hR : yW dC dI ca ar (yM 0) H) (hO : yO dC dI ca ob (fun _ => 0) H) (hS : va_S (fun q => s.heap.size ≤ q) s.heap H locs)
    (hJ : ∀ (H : Heap) (locs : List Loc) (ls : Array Slot), lv_has ls 9 [(4, .int 0), (3, .ref ob), (2, .ref mo), (1, .ref sf), (0, .ref b)] → va_S (fun q => s.heap.size ≤ q) s.heap H locs → W p l e room_1 s m #[Value.ref b] below meth c H locs 656031 7134144 Q (F0 m 1716 ls [])) : W p l e room_1 s m #[Value.ref b] below meth c H locs 146 780 Q (F0 m 864 ls []) := by
  have hbA : ¬ (fun q => s.heap.size ≤ q) b := Nat.not_le.mpr hbl
  have hK5 : va_K (dC, dI) vwCl (zt ca) s := va_K.sub hK [0, 1, 2, 3, 4] rfl
  have hK9 : va_K (dC, dI) vwCl (yt ca) s := va_K.sub hK [0, 5] rfl
  have hmr : ∀ i, yd.1 i < 200 → ar i ≠ mo := fun i hi => by have h1 := hrb i hi; omega
  have hob2 : ¬ zA2 ad ad2 ob := fun h => by have h1 := hA2 _ h; omega
  have hAz : ∀ q, zA2 ad ad2 q → (fun q => s.heap.size ≤ q) q := fun q h => (hA2 q h).1
  have hAo : ∀ q, zAo ad ad2 ob q → (fun q => s.heap.size ≤ q) q := by
    rintro q (h | h)
    · exact (hA2 q h).1
    · rw [h]; show s.heap.size ≤ ob; omega
  have hmoA : ¬ zAo ad ad2 ob mo := by
    rintro (h | h)
    · have h1 := hA2 _ h; omega
    · omega
  have hrA : ∀ i, yd.1 i < 200 → ¬ zAo ad ad2 ob (ar i) := fun i hi => by
    have h2 := hrb i hi
    rintro (h | h)
    · have h1 := hA2 _ h; omega
    · omega
  refine lv_aload_n hx hb dL_law_864 rfl (lv_at hl 3 rfl) ?_
  refine lv_aload_n hx hb dL_law_865 rfl (lv_at hl 4 rfl) ?_
  refine lv_iload hx hb dL_law_866 (lv_at hl 0 rfl) ?_
  refine lv_iconst (v := 1) hx hb dL_law_868 (by decide) ?_
  refine lv_iadd hx hb dL_law_869 ?_
  refine y_num (b := 1) (by decide) ?_
  refine va_sld hx hb hX hbl hbA hS (show vp_in 1 6 from zx (n := 1) rfl (by decide) (by decide)) dL_law_870 ?_
  refine y_num (b := (xs 1)) (show xs 1 = (xs 1) from rfl) ?_
  refine lv_aload_n hx hb dL_law_871 rfl (lv_at hl 4 rfl) ?_
  refine lv_iload hx hb dL_law_872 (lv_at hl 0 rfl) ?_
  refine lv_iconst (v := 2) hx hb dL_law_874 (by decide) ?_
  refine lv_iadd hx hb dL_law_875 ?_
  refine y_num (b := 2) (by decide) ?_
  refine va_sld hx hb hX hbl hbA hS (show vp_in 2 6 from zx (n := 2) rfl (by decide) (by decide)) dL_law_876 ?_
  refine y_num (b := (xs 2)) (show xs 2 = (xs 2) from rfl) ?_
  refine lv_aload_n hx hb dL_law_877 rfl (lv_at hl 1 rfl) ?_
  refine z_cWx (D := (dC, dI)) (cl := vwCl) (tys := lt9 ca) (nw := zw_nest) (av := [.ref sf, .int (xs 1), .int (xs 2), .ref ob]) (rest := []) ⟨hx, hb, hml, hown, hts⟩ (m_L_ofBlockx l hl9 dC dI ca sf ad ad2 ob zMi zMi (xs 1) (xs 2) (z_ni0 _)) (vx_cwSW 4 hts gL_law_L_ofBlock rfl rfl rfl (by decide +kernel) ⟨Nat.le_of_ble_eq_true rfl, Nat.le_of_ble_eq_true rfl⟩) ⟨hT, hC1, hC2⟩ hK hN hEx zw_nest_ok rfl hl.1 rfl (Nat.le_of_ble_eq_true rfl) dL_law_878 ⟨(by show 146 + 1 ≤ 656031; omega), (by show 780 + 6 ≤ 7134144; omega)⟩ hS (fun H locs oq1 hz1 hS => ?_)
  have hMo := va_at.kept hMo (oq1 _ (va_at.lt hMo))
  have hR := hR.kept (fun i hi => oq1 _ (hR.lt hi))
  have hO := va_at.kept hO (oq1 _ (va_at.lt hO))
  refine lv_istore (lv' := [(5, .int 1), (4, .int 0), (3, .ref ob), (2, .ref mo), (1, .ref sf), (0, .ref b)]) hx hb dL_law_881 hl (by decide) rfl (fun ls hl => ?_)
  refine lv_aload_n hx hb dL_law_883 rfl (lv_at hl 3 rfl) ?_
  refine lv_aload_n hx hb dL_law_884 rfl (lv_at hl 5 rfl) ?_
  refine lv_iload hx hb dL_law_885 (lv_at hl 1 rfl) ?_
  refine lv_iconst (v := 1) hx hb dL_law_887 (by decide) ?_
  refine lv_iadd hx hb dL_law_888 ?_
  refine y_num (b := 1) (by decide) ?_
  refine va_sld hx hb hX hbl hbA hS (show vp_in 1 6 from zx (n := 1) rfl (by decide) (by decide)) dL_law_889 ?_
  refine y_num (b := (xs 1)) (show xs 1 = (xs 1) from rfl) ?_
  refine lv_aload_n hx hb dL_law_890 rfl (lv_at hl 5 rfl) ?_
  refine lv_iload hx hb dL_law_891 (lv_at hl 1 rfl) ?_
  refine lv_iconst (v := 2) hx hb dL_law_893 (by decide) ?_
  refine lv_iadd hx hb dL_law_894 ?_
  refine y_num (b := 2) (by decide) ?_
  refine va_sld hx hb hX hbl hbA hS (show vp_in 2 6 from zx (n := 2) rfl (by decide) (by decide)) dL_law_895 ?_
  refine y_num (b := (xs 2)) (show xs 2 = (xs 2) from rfl) ?_
  refine y_cVi (D := (dC, dI)) (cl := vwCl) (tys := yt ca) (nw := zw_nest) (C := RX10) (As := [.int (xs 1), .int (xs 2)]) (rest := []) ⟨hx, hb, hml, hown, hts⟩ (m_X10_ofBlock l dC dI ca mo _ ar hIr hmr 0 0 (xs 1) (xs 2) ) (cwV 2 hts gL_law_X10_ofBlock rfl rfl rfl (by decide +kernel) ⟨Nat.le_of_ble_eq_true rfl, Nat.le_of_ble_eq_true rfl⟩) (va_recv hK9 (y_one hMo) (ci := 10) rfl (q0 := 0) rfl) ⟨rfl, hMo, hR⟩ hK9 hN hAO zw_nest_ok rfl hl.1 rfl (Nat.le_of_ble_eq_true rfl) dL_law_896 ⟨(by show 147 + 0 ≤ 656031; omega), (by show 786 + 0 ≤ 7134144; omega)⟩ hS (yA_law hmo (fun i hi => Nat.le_trans hmo (Nat.le_of_lt (hrb i hi).1)) hS.1) (fun H locs hB1 oq1 hz1 hS => ?_)
  have hO := va_at.kept hO (oq1 _ (va_at.lt hO) (yA_ob hob hrb (va_at.lt hO)))
  obtain ⟨hMo, hR⟩ := hB1
  refine lv_istore (lv' := [(6, .int 0), (5, .int 1), (4, .int 0), (3, .ref ob), (2, .ref mo), (1, .ref sf), (0, .ref b)]) hx hb dL_law_899 hl (by decide) rfl (fun ls hl => ?_)
  refine lv_aload_n hx hb dL_law_901 rfl (lv_at hl 4 rfl) ?_
  refine y_cVi (D := (dC, dI)) (cl := vwCl) (tys := yt ca) (nw := zw_nest) (C := RX10) (As := []) (rest := []) ⟨hx, hb, hml, hown, hts⟩ (m_X10_thrown0 l dC dI ca mo (ar 0) 1 0) (cwV 0 hts gL_law_X10_thrown rfl rfl rfl (by decide +kernel) ⟨Nat.le_of_ble_eq_true rfl, Nat.le_of_ble_eq_true rfl⟩) (va_recv hK9 (y_one hMo) (ci := 10) rfl (q0 := 0) rfl) hMo hK9 hN hAO zw_nest_ok rfl hl.1 rfl (Nat.le_of_ble_eq_true rfl) dL_law_902 ⟨(by show 147 + 0 ≤ 656031; omega), (by show 786 + 0 ≤ 7134144; omega)⟩ hS (fun _ h => h.elim) (fun H locs hB1 oq1 hz1 hS => ?_)
  have hO := va_at.kept hO (oq1 _ (va_at.lt hO) (fun h => h))
  refine lv_iload hx hb dL_law_905 (lv_at hl 1 rfl) ?_
  refine lv_icmp_eq (tgt := 912) hx hb dL_law_907 (by decide) (fun _ => ?_) (fun c9 => absurd rfl c9)
  refine lv_iload hx hb dL_law_912 (lv_at hl 1 rfl) ?_
  refine lv_if_ne (tgt := 929) hx hb dL_law_914 (by decide) (fun _ => ?_) (fun c9 => absurd c9 (by decide))
  refine lv_goto (tgt := 1716) hx hb dL_law_929 (by decide) ?_
  refine W.widen (k := 656031) (n := 7134144) (by show 147 ≤ 656031; omega) (by show 786 ≤ 7134144; omega) ?_
  exact hJ _ _ _ (lv_sub hl [2, 3, 4, 5, 6] rfl) hS
set_option maxHeartbeats 4000000 in
set_option maxRecDepth 100000 in
theorem la_ofWell {p : Program} {e : Env} {s : State} {m : MethodId} {below : List Frame} {meth : Method} {c : Code} {Q : State → Prop} (l : Launch) (hl9 : l.stackTraces = false) {b : Nat} {xs : Nat → Int32} (dC : Nat → ClassId) (dI : Nat → Nat → Nat) (ca : Nat → ClassId)
    (hx : p.tables.exec = Jvm.exec) (hb : c.code = cL_law) (hml : c.maxLocals = 9) (hown : s.vm.findClass RL = some m.cls) (hts : ∀ w ∈ wsL_law, w.before #[Value.ref b] s = true) (hX : va_X b 6 xs s s.heap) (hbl : b < s.heap.size) (hK : va_K (dC, dI) vwCl (lt9 ca) s) (hN : z_N zw_nest s) (hAO : va_AOA .int s) (hEx : zEx9 (fun q => s.heap.size ≤ q) s)
    (sf mo ob : Nat) (ad ad2 ar : Nat → Nat) (hI : z_I zd ad) (hI2 : z_I zd ad2) (hq : zSep sf ad ad2) (hA2 : ∀ q, zA2 ad ad2 q → s.heap.size ≤ q ∧ q < mo) (hIr : z_I yd ar) (hrb : ∀ i, yd.1 i < 200 → mo < ar i ∧ ar i < ob) (hmo : s.heap.size ≤ mo) (hob : mo < ob)
    (H : Heap) (locs : List Loc) (ls : Array Slot) (hl : lv_has ls 9 [(4, .int 0), (3, .ref ob), (2, .ref mo), (1, .ref sf), (0, .ref b)]) (hT : zT dC dI ca sf (ad 0) (ad2 0) H) (hC1 : zW dC dI ca ad zMi H) (hC2 : zW dC dI ca ad2 zMi H) (hMo : yMo dC dI mo 0 (ar 0) 0 H) (hR : yW dC dI ca ar (yM 0) H) (hO : yO dC dI ca ob (fun _ => 0) H) (hS : va_S (fun q => s.heap.size ≤ q) s.heap H locs)
    (hJ : ∀ (H : Heap) (locs : List Loc) (ls : Array Slot), lv_has ls 9 [(4, .int 0), (3, .ref ob), (2, .ref mo), (1, .ref sf), (0, .ref b)] → va_S (fun q => s.heap.size ≤ q) s.heap H locs → W p l e room_1 s m #[Value.ref b] below meth c H locs 656031 7134144 Q (F0 m 1716 ls [])) : W p l e room_1 s m #[Value.ref b] below meth c H locs 146 780 Q (F0 m 932 ls []) := by
  have hbA : ¬ (fun q => s.heap.size ≤ q) b := Nat.not_le.mpr hbl
  have hK5 : va_K (dC, dI) vwCl (zt ca) s := va_K.sub hK [0, 1, 2, 3, 4] rfl
  have hK9 : va_K (dC, dI) vwCl (yt ca) s := va_K.sub hK [0, 5] rfl
  have hmr : ∀ i, yd.1 i < 200 → ar i ≠ mo := fun i hi => by have h1 := hrb i hi; omega
  have hob2 : ¬ zA2 ad ad2 ob := fun h => by have h1 := hA2 _ h; omega
  have hAz : ∀ q, zA2 ad ad2 q → (fun q => s.heap.size ≤ q) q := fun q h => (hA2 q h).1
  have hAo : ∀ q, zAo ad ad2 ob q → (fun q => s.heap.size ≤ q) q := by
    rintro q (h | h)
    · exact (hA2 q h).1
    · rw [h]; show s.heap.size ≤ ob; omega
  have hmoA : ¬ zAo ad ad2 ob mo := by
    rintro (h | h)
    · have h1 := hA2 _ h; omega
    · omega
  have hrA : ∀ i, yd.1 i < 200 → ¬ zAo ad ad2 ob (ar i) := fun i hi => by
    have h2 := hrb i hi
    rintro (h | h)
    · have h1 := hA2 _ h; omega
    · omega
  refine lv_aload_n hx hb dL_law_932 rfl (lv_at hl 3 rfl) ?_
  refine lv_aload_n hx hb dL_law_933 rfl (lv_at hl 4 rfl) ?_
  refine lv_iload hx hb dL_law_934 (lv_at hl 0 rfl) ?_
  refine lv_iconst (v := 1) hx hb dL_law_936 (by decide) ?_
  refine lv_iadd hx hb dL_law_937 ?_
  refine y_num (b := 1) (by decide) ?_
  refine va_sld hx hb hX hbl hbA hS (show vp_in 1 6 from zx (n := 1) rfl (by decide) (by decide)) dL_law_938 ?_
  refine y_num (b := (xs 1)) (show xs 1 = (xs 1) from rfl) ?_
  refine lv_aload_n hx hb dL_law_939 rfl (lv_at hl 4 rfl) ?_
  refine lv_iload hx hb dL_law_940 (lv_at hl 0 rfl) ?_
  refine lv_iconst (v := 2) hx hb dL_law_942 (by decide) ?_
  refine lv_iadd hx hb dL_law_943 ?_
  refine y_num (b := 2) (by decide) ?_
  refine va_sld hx hb hX hbl hbA hS (show vp_in 2 6 from zx (n := 2) rfl (by decide) (by decide)) dL_law_944 ?_
  refine y_num (b := (xs 2)) (show xs 2 = (xs 2) from rfl) ?_
  refine lv_aload_n hx hb dL_law_945 rfl (lv_at hl 1 rfl) ?_
  refine z_cWx (D := (dC, dI)) (cl := vwCl) (tys := lt9 ca) (nw := zw_nest) (av := [.ref sf, .int (xs 1), .int (xs 2), .ref ob]) (rest := []) ⟨hx, hb, hml, hown, hts⟩ (m_L_ofWellx l hl9 dC dI ca sf ad ad2 ob zMi zMi (xs 1) (xs 2) (z_ni0 _)) (vx_cwSW 4 hts gL_law_L_ofWell rfl rfl rfl (by decide +kernel) ⟨Nat.le_of_ble_eq_true rfl, Nat.le_of_ble_eq_true rfl⟩) ⟨hT, hC1, hC2⟩ hK hN hEx zw_nest_ok rfl hl.1 rfl (Nat.le_of_ble_eq_true rfl) dL_law_946 ⟨(by show 146 + 1 ≤ 656031; omega), (by show 780 + 6 ≤ 7134144; omega)⟩ hS (fun H locs oq1 hz1 hS => ?_)
  have hMo := va_at.kept hMo (oq1 _ (va_at.lt hMo))
  have hR := hR.kept (fun i hi => oq1 _ (hR.lt hi))
  have hO := va_at.kept hO (oq1 _ (va_at.lt hO))
  refine lv_istore (lv' := [(5, .int 1), (4, .int 0), (3, .ref ob), (2, .ref mo), (1, .ref sf), (0, .ref b)]) hx hb dL_law_949 hl (by decide) rfl (fun ls hl => ?_)
  refine lv_aload_n hx hb dL_law_951 rfl (lv_at hl 3 rfl) ?_
  refine lv_aload_n hx hb dL_law_952 rfl (lv_at hl 5 rfl) ?_
  refine lv_iload hx hb dL_law_953 (lv_at hl 1 rfl) ?_
  refine lv_iconst (v := 1) hx hb dL_law_955 (by decide) ?_
  refine lv_iadd hx hb dL_law_956 ?_
  refine y_num (b := 1) (by decide) ?_
  refine va_sld hx hb hX hbl hbA hS (show vp_in 1 6 from zx (n := 1) rfl (by decide) (by decide)) dL_law_957 ?_
  refine y_num (b := (xs 1)) (show xs 1 = (xs 1) from rfl) ?_
  refine lv_aload_n hx hb dL_law_958 rfl (lv_at hl 5 rfl) ?_
  refine lv_iload hx hb dL_law_959 (lv_at hl 1 rfl) ?_
  refine lv_iconst (v := 2) hx hb dL_law_961 (by decide) ?_
  refine lv_iadd hx hb dL_law_962 ?_
  refine y_num (b := 2) (by decide) ?_
  refine va_sld hx hb hX hbl hbA hS (show vp_in 2 6 from zx (n := 2) rfl (by decide) (by decide)) dL_law_963 ?_
  refine y_num (b := (xs 2)) (show xs 2 = (xs 2) from rfl) ?_
  refine y_cVi (D := (dC, dI)) (cl := vwCl) (tys := yt ca) (nw := zw_nest) (C := RX10) (As := [.int (xs 1), .int (xs 2)]) (rest := []) ⟨hx, hb, hml, hown, hts⟩ (m_X10_ofWell l dC dI ca mo _ ar hIr hmr 0 0 (xs 1) (xs 2) ) (cwV 2 hts gL_law_X10_ofWell rfl rfl rfl (by decide +kernel) ⟨Nat.le_of_ble_eq_true rfl, Nat.le_of_ble_eq_true rfl⟩) (va_recv hK9 (y_one hMo) (ci := 10) rfl (q0 := 0) rfl) ⟨rfl, hMo, hR⟩ hK9 hN hAO zw_nest_ok rfl hl.1 rfl (Nat.le_of_ble_eq_true rfl) dL_law_964 ⟨(by show 147 + 0 ≤ 656031; omega), (by show 786 + 0 ≤ 7134144; omega)⟩ hS (yA_law hmo (fun i hi => Nat.le_trans hmo (Nat.le_of_lt (hrb i hi).1)) hS.1) (fun H locs hB1 oq1 hz1 hS => ?_)
  have hO := va_at.kept hO (oq1 _ (va_at.lt hO) (yA_ob hob hrb (va_at.lt hO)))
  obtain ⟨hMo, hR⟩ := hB1
  refine lv_istore (lv' := [(6, .int 0), (5, .int 1), (4, .int 0), (3, .ref ob), (2, .ref mo), (1, .ref sf), (0, .ref b)]) hx hb dL_law_967 hl (by decide) rfl (fun ls hl => ?_)
  refine lv_aload_n hx hb dL_law_969 rfl (lv_at hl 4 rfl) ?_
  refine y_cVi (D := (dC, dI)) (cl := vwCl) (tys := yt ca) (nw := zw_nest) (C := RX10) (As := []) (rest := []) ⟨hx, hb, hml, hown, hts⟩ (m_X10_thrown0 l dC dI ca mo (ar 0) 1 0) (cwV 0 hts gL_law_X10_thrown rfl rfl rfl (by decide +kernel) ⟨Nat.le_of_ble_eq_true rfl, Nat.le_of_ble_eq_true rfl⟩) (va_recv hK9 (y_one hMo) (ci := 10) rfl (q0 := 0) rfl) hMo hK9 hN hAO zw_nest_ok rfl hl.1 rfl (Nat.le_of_ble_eq_true rfl) dL_law_970 ⟨(by show 147 + 0 ≤ 656031; omega), (by show 786 + 0 ≤ 7134144; omega)⟩ hS (fun _ h => h.elim) (fun H locs hB1 oq1 hz1 hS => ?_)
  have hO := va_at.kept hO (oq1 _ (va_at.lt hO) (fun h => h))
  refine lv_iload hx hb dL_law_973 (lv_at hl 1 rfl) ?_
  refine lv_icmp_eq (tgt := 980) hx hb dL_law_975 (by decide) (fun _ => ?_) (fun c9 => absurd rfl c9)
  refine lv_iload hx hb dL_law_980 (lv_at hl 1 rfl) ?_
  refine lv_if_ne (tgt := 997) hx hb dL_law_982 (by decide) (fun _ => ?_) (fun c9 => absurd c9 (by decide))
  refine lv_goto (tgt := 1716) hx hb dL_law_997 (by decide) ?_
  refine W.widen (k := 656031) (n := 7134144) (by show 147 ≤ 656031; omega) (by show 786 ≤ 7134144; omega) ?_
  exact hJ _ _ _ (lv_sub hl [2, 3, 4, 5, 6] rfl) hS
set_option maxHeartbeats 4000000 in
set_option maxRecDepth 100000 in
theorem la_ofSpring {p : Program} {e : Env} {s : State} {m : MethodId} {below : List Frame} {meth : Method} {c : Code} {Q : State → Prop} (l : Launch) (hl9 : l.stackTraces = false) {b : Nat} {xs : Nat → Int32} (dC : Nat → ClassId) (dI : Nat → Nat → Nat) (ca : Nat → ClassId)
    (hx : p.tables.exec = Jvm.exec) (hb : c.code = cL_law) (hml : c.maxLocals = 9) (hown : s.vm.findClass RL = some m.cls) (hts : ∀ w ∈ wsL_law, w.before #[Value.ref b] s = true) (hX : va_X b 6 xs s s.heap) (hbl : b < s.heap.size) (hK : va_K (dC, dI) vwCl (lt9 ca) s) (hN : z_N zw_nest s) (hAO : va_AOA .int s) (hEx : zEx9 (fun q => s.heap.size ≤ q) s)
    (sf mo ob : Nat) (ad ad2 ar : Nat → Nat) (hI : z_I zd ad) (hI2 : z_I zd ad2) (hq : zSep sf ad ad2) (hA2 : ∀ q, zA2 ad ad2 q → s.heap.size ≤ q ∧ q < mo) (hIr : z_I yd ar) (hrb : ∀ i, yd.1 i < 200 → mo < ar i ∧ ar i < ob) (hmo : s.heap.size ≤ mo) (hob : mo < ob)
    (H : Heap) (locs : List Loc) (ls : Array Slot) (hl : lv_has ls 9 [(4, .int 0), (3, .ref ob), (2, .ref mo), (1, .ref sf), (0, .ref b)]) (hT : zT dC dI ca sf (ad 0) (ad2 0) H) (hC1 : zW dC dI ca ad zMi H) (hC2 : zW dC dI ca ad2 zMi H) (hMo : yMo dC dI mo 0 (ar 0) 0 H) (hR : yW dC dI ca ar (yM 0) H) (hO : yO dC dI ca ob (fun _ => 0) H) (hS : va_S (fun q => s.heap.size ≤ q) s.heap H locs)
    (hJ : ∀ (H : Heap) (locs : List Loc) (ls : Array Slot), lv_has ls 9 [(4, .int 0), (3, .ref ob), (2, .ref mo), (1, .ref sf), (0, .ref b)] → va_S (fun q => s.heap.size ≤ q) s.heap H locs → W p l e room_1 s m #[Value.ref b] below meth c H locs 656031 7134144 Q (F0 m 1716 ls [])) : W p l e room_1 s m #[Value.ref b] below meth c H locs 146 780 Q (F0 m 1000 ls []) := by
  have hbA : ¬ (fun q => s.heap.size ≤ q) b := Nat.not_le.mpr hbl
  have hK5 : va_K (dC, dI) vwCl (zt ca) s := va_K.sub hK [0, 1, 2, 3, 4] rfl
  have hK9 : va_K (dC, dI) vwCl (yt ca) s := va_K.sub hK [0, 5] rfl
  have hmr : ∀ i, yd.1 i < 200 → ar i ≠ mo := fun i hi => by have h1 := hrb i hi; omega
  have hob2 : ¬ zA2 ad ad2 ob := fun h => by have h1 := hA2 _ h; omega
  have hAz : ∀ q, zA2 ad ad2 q → (fun q => s.heap.size ≤ q) q := fun q h => (hA2 q h).1
  have hAo : ∀ q, zAo ad ad2 ob q → (fun q => s.heap.size ≤ q) q := by
    rintro q (h | h)
    · exact (hA2 q h).1
    · rw [h]; show s.heap.size ≤ ob; omega
  have hmoA : ¬ zAo ad ad2 ob mo := by
    rintro (h | h)
    · have h1 := hA2 _ h; omega
    · omega
  have hrA : ∀ i, yd.1 i < 200 → ¬ zAo ad ad2 ob (ar i) := fun i hi => by
    have h2 := hrb i hi
    rintro (h | h)
    · have h1 := hA2 _ h; omega
    · omega
  refine lv_aload_n hx hb dL_law_1000 rfl (lv_at hl 3 rfl) ?_
  refine lv_aload_n hx hb dL_law_1001 rfl (lv_at hl 4 rfl) ?_
  refine lv_iload hx hb dL_law_1002 (lv_at hl 0 rfl) ?_
  refine lv_iconst (v := 1) hx hb dL_law_1004 (by decide) ?_
  refine lv_iadd hx hb dL_law_1005 ?_
  refine y_num (b := 1) (by decide) ?_
  refine va_sld hx hb hX hbl hbA hS (show vp_in 1 6 from zx (n := 1) rfl (by decide) (by decide)) dL_law_1006 ?_
  refine y_num (b := (xs 1)) (show xs 1 = (xs 1) from rfl) ?_
  refine lv_aload_n hx hb dL_law_1007 rfl (lv_at hl 4 rfl) ?_
  refine lv_iload hx hb dL_law_1008 (lv_at hl 0 rfl) ?_
  refine lv_iconst (v := 2) hx hb dL_law_1010 (by decide) ?_
  refine lv_iadd hx hb dL_law_1011 ?_
  refine y_num (b := 2) (by decide) ?_
  refine va_sld hx hb hX hbl hbA hS (show vp_in 2 6 from zx (n := 2) rfl (by decide) (by decide)) dL_law_1012 ?_
  refine y_num (b := (xs 2)) (show xs 2 = (xs 2) from rfl) ?_
  refine lv_aload_n hx hb dL_law_1013 rfl (lv_at hl 1 rfl) ?_
  refine z_cWx (D := (dC, dI)) (cl := vwCl) (tys := lt9 ca) (nw := zw_nest) (av := [.ref sf, .int (xs 1), .int (xs 2), .ref ob]) (rest := []) ⟨hx, hb, hml, hown, hts⟩ (m_L_ofSpringx l hl9 dC dI ca sf ad ad2 ob zMi zMi (xs 1) (xs 2) (z_ni0 _)) (vx_cwSW 4 hts gL_law_L_ofSpring rfl rfl rfl (by decide +kernel) ⟨Nat.le_of_ble_eq_true rfl, Nat.le_of_ble_eq_true rfl⟩) ⟨hT, hC1, hC2⟩ hK hN hEx zw_nest_ok rfl hl.1 rfl (Nat.le_of_ble_eq_true rfl) dL_law_1014 ⟨(by show 146 + 1 ≤ 656031; omega), (by show 780 + 6 ≤ 7134144; omega)⟩ hS (fun H locs oq1 hz1 hS => ?_)
  have hMo := va_at.kept hMo (oq1 _ (va_at.lt hMo))
  have hR := hR.kept (fun i hi => oq1 _ (hR.lt hi))
  have hO := va_at.kept hO (oq1 _ (va_at.lt hO))
  refine lv_istore (lv' := [(5, .int 1), (4, .int 0), (3, .ref ob), (2, .ref mo), (1, .ref sf), (0, .ref b)]) hx hb dL_law_1017 hl (by decide) rfl (fun ls hl => ?_)
  refine lv_aload_n hx hb dL_law_1019 rfl (lv_at hl 3 rfl) ?_
  refine lv_aload_n hx hb dL_law_1020 rfl (lv_at hl 5 rfl) ?_
  refine lv_iload hx hb dL_law_1021 (lv_at hl 1 rfl) ?_
  refine lv_iconst (v := 1) hx hb dL_law_1023 (by decide) ?_
  refine lv_iadd hx hb dL_law_1024 ?_
  refine y_num (b := 1) (by decide) ?_
  refine va_sld hx hb hX hbl hbA hS (show vp_in 1 6 from zx (n := 1) rfl (by decide) (by decide)) dL_law_1025 ?_
  refine y_num (b := (xs 1)) (show xs 1 = (xs 1) from rfl) ?_
  refine lv_aload_n hx hb dL_law_1026 rfl (lv_at hl 5 rfl) ?_
  refine lv_iload hx hb dL_law_1027 (lv_at hl 1 rfl) ?_
  refine lv_iconst (v := 2) hx hb dL_law_1029 (by decide) ?_
  refine lv_iadd hx hb dL_law_1030 ?_
  refine y_num (b := 2) (by decide) ?_
  refine va_sld hx hb hX hbl hbA hS (show vp_in 2 6 from zx (n := 2) rfl (by decide) (by decide)) dL_law_1031 ?_
  refine y_num (b := (xs 2)) (show xs 2 = (xs 2) from rfl) ?_
  refine y_cVi (D := (dC, dI)) (cl := vwCl) (tys := yt ca) (nw := zw_nest) (C := RX10) (As := [.int (xs 1), .int (xs 2)]) (rest := []) ⟨hx, hb, hml, hown, hts⟩ (m_X10_ofSpring l dC dI ca mo _ ar hIr hmr 0 0 (xs 1) (xs 2) ) (cwV 2 hts gL_law_X10_ofSpring rfl rfl rfl (by decide +kernel) ⟨Nat.le_of_ble_eq_true rfl, Nat.le_of_ble_eq_true rfl⟩) (va_recv hK9 (y_one hMo) (ci := 10) rfl (q0 := 0) rfl) ⟨rfl, hMo, hR⟩ hK9 hN hAO zw_nest_ok rfl hl.1 rfl (Nat.le_of_ble_eq_true rfl) dL_law_1032 ⟨(by show 147 + 0 ≤ 656031; omega), (by show 786 + 0 ≤ 7134144; omega)⟩ hS (yA_law hmo (fun i hi => Nat.le_trans hmo (Nat.le_of_lt (hrb i hi).1)) hS.1) (fun H locs hB1 oq1 hz1 hS => ?_)
  have hO := va_at.kept hO (oq1 _ (va_at.lt hO) (yA_ob hob hrb (va_at.lt hO)))
  obtain ⟨hMo, hR⟩ := hB1
  refine lv_istore (lv' := [(6, .int 0), (5, .int 1), (4, .int 0), (3, .ref ob), (2, .ref mo), (1, .ref sf), (0, .ref b)]) hx hb dL_law_1035 hl (by decide) rfl (fun ls hl => ?_)
  refine lv_aload_n hx hb dL_law_1037 rfl (lv_at hl 4 rfl) ?_
  refine y_cVi (D := (dC, dI)) (cl := vwCl) (tys := yt ca) (nw := zw_nest) (C := RX10) (As := []) (rest := []) ⟨hx, hb, hml, hown, hts⟩ (m_X10_thrown0 l dC dI ca mo (ar 0) 1 0) (cwV 0 hts gL_law_X10_thrown rfl rfl rfl (by decide +kernel) ⟨Nat.le_of_ble_eq_true rfl, Nat.le_of_ble_eq_true rfl⟩) (va_recv hK9 (y_one hMo) (ci := 10) rfl (q0 := 0) rfl) hMo hK9 hN hAO zw_nest_ok rfl hl.1 rfl (Nat.le_of_ble_eq_true rfl) dL_law_1038 ⟨(by show 147 + 0 ≤ 656031; omega), (by show 786 + 0 ≤ 7134144; omega)⟩ hS (fun _ h => h.elim) (fun H locs hB1 oq1 hz1 hS => ?_)
  have hO := va_at.kept hO (oq1 _ (va_at.lt hO) (fun h => h))
  refine lv_iload hx hb dL_law_1041 (lv_at hl 1 rfl) ?_
  refine lv_icmp_eq (tgt := 1048) hx hb dL_law_1043 (by decide) (fun _ => ?_) (fun c9 => absurd rfl c9)
  refine lv_iload hx hb dL_law_1048 (lv_at hl 1 rfl) ?_
  refine lv_if_ne (tgt := 1065) hx hb dL_law_1050 (by decide) (fun _ => ?_) (fun c9 => absurd c9 (by decide))
  refine lv_goto (tgt := 1716) hx hb dL_law_1065 (by decide) ?_
  refine W.widen (k := 656031) (n := 7134144) (by show 147 ≤ 656031; omega) (by show 786 ≤ 7134144; omega) ?_
  exact hJ _ _ _ (lv_sub hl [2, 3, 4, 5, 6] rfl) hS
set_option maxHeartbeats 4000000 in
set_option maxRecDepth 100000 in
theorem la_ofFace {p : Program} {e : Env} {s : State} {m : MethodId} {below : List Frame} {meth : Method} {c : Code} {Q : State → Prop} (l : Launch) (hl9 : l.stackTraces = false) {b : Nat} {xs : Nat → Int32} (dC : Nat → ClassId) (dI : Nat → Nat → Nat) (ca : Nat → ClassId)
    (hx : p.tables.exec = Jvm.exec) (hb : c.code = cL_law) (hml : c.maxLocals = 9) (hown : s.vm.findClass RL = some m.cls) (hts : ∀ w ∈ wsL_law, w.before #[Value.ref b] s = true) (hX : va_X b 6 xs s s.heap) (hbl : b < s.heap.size) (hK : va_K (dC, dI) vwCl (lt9 ca) s) (hN : z_N zw_nest s) (hAO : va_AOA .int s) (hEx : zEx9 (fun q => s.heap.size ≤ q) s)
    (sf mo ob : Nat) (ad ad2 ar : Nat → Nat) (hI : z_I zd ad) (hI2 : z_I zd ad2) (hq : zSep sf ad ad2) (hA2 : ∀ q, zA2 ad ad2 q → s.heap.size ≤ q ∧ q < mo) (hIr : z_I yd ar) (hrb : ∀ i, yd.1 i < 200 → mo < ar i ∧ ar i < ob) (hmo : s.heap.size ≤ mo) (hob : mo < ob)
    (H : Heap) (locs : List Loc) (ls : Array Slot) (hl : lv_has ls 9 [(4, .int 0), (3, .ref ob), (2, .ref mo), (1, .ref sf), (0, .ref b)]) (hT : zT dC dI ca sf (ad 0) (ad2 0) H) (hC1 : zW dC dI ca ad zMi H) (hC2 : zW dC dI ca ad2 zMi H) (hMo : yMo dC dI mo 0 (ar 0) 0 H) (hR : yW dC dI ca ar (yM 0) H) (hO : yO dC dI ca ob (fun _ => 0) H) (hS : va_S (fun q => s.heap.size ≤ q) s.heap H locs)
    (hJ : ∀ (H : Heap) (locs : List Loc) (ls : Array Slot), lv_has ls 9 [(4, .int 0), (3, .ref ob), (2, .ref mo), (1, .ref sf), (0, .ref b)] → va_S (fun q => s.heap.size ≤ q) s.heap H locs → W p l e room_1 s m #[Value.ref b] below meth c H locs 656031 7134144 Q (F0 m 1716 ls [])) : W p l e room_1 s m #[Value.ref b] below meth c H locs 146 780 Q (F0 m 1068 ls []) := by
  have hbA : ¬ (fun q => s.heap.size ≤ q) b := Nat.not_le.mpr hbl
  have hK5 : va_K (dC, dI) vwCl (zt ca) s := va_K.sub hK [0, 1, 2, 3, 4] rfl
  have hK9 : va_K (dC, dI) vwCl (yt ca) s := va_K.sub hK [0, 5] rfl
  have hmr : ∀ i, yd.1 i < 200 → ar i ≠ mo := fun i hi => by have h1 := hrb i hi; omega
  have hob2 : ¬ zA2 ad ad2 ob := fun h => by have h1 := hA2 _ h; omega
  have hAz : ∀ q, zA2 ad ad2 q → (fun q => s.heap.size ≤ q) q := fun q h => (hA2 q h).1
  have hAo : ∀ q, zAo ad ad2 ob q → (fun q => s.heap.size ≤ q) q := by
    rintro q (h | h)
    · exact (hA2 q h).1
    · rw [h]; show s.heap.size ≤ ob; omega
  have hmoA : ¬ zAo ad ad2 ob mo := by
    rintro (h | h)
    · have h1 := hA2 _ h; omega
    · omega
  have hrA : ∀ i, yd.1 i < 200 → ¬ zAo ad ad2 ob (ar i) := fun i hi => by
    have h2 := hrb i hi
    rintro (h | h)
    · have h1 := hA2 _ h; omega
    · omega
  refine lv_aload_n hx hb dL_law_1068 rfl (lv_at hl 3 rfl) ?_
  refine lv_aload_n hx hb dL_law_1069 rfl (lv_at hl 4 rfl) ?_
  refine lv_iload hx hb dL_law_1070 (lv_at hl 0 rfl) ?_
  refine lv_iconst (v := 1) hx hb dL_law_1072 (by decide) ?_
  refine lv_iadd hx hb dL_law_1073 ?_
  refine y_num (b := 1) (by decide) ?_
  refine va_sld hx hb hX hbl hbA hS (show vp_in 1 6 from zx (n := 1) rfl (by decide) (by decide)) dL_law_1074 ?_
  refine y_num (b := (xs 1)) (show xs 1 = (xs 1) from rfl) ?_
  refine lv_aload_n hx hb dL_law_1075 rfl (lv_at hl 4 rfl) ?_
  refine lv_iload hx hb dL_law_1076 (lv_at hl 0 rfl) ?_
  refine lv_iconst (v := 2) hx hb dL_law_1078 (by decide) ?_
  refine lv_iadd hx hb dL_law_1079 ?_
  refine y_num (b := 2) (by decide) ?_
  refine va_sld hx hb hX hbl hbA hS (show vp_in 2 6 from zx (n := 2) rfl (by decide) (by decide)) dL_law_1080 ?_
  refine y_num (b := (xs 2)) (show xs 2 = (xs 2) from rfl) ?_
  refine lv_if_eq (tgt := 1088) hx hb dL_law_1081 (by decide) (fun z0 => ?_) (fun z0 => ?_)
  · refine lv_iconst (v := 0) hx hb dL_law_1088 (by decide) ?_
    refine lv_aload_n hx hb dL_law_1089 rfl (lv_at hl 1 rfl) ?_
    refine z_cWx (D := (dC, dI)) (cl := vwCl) (tys := lt9 ca) (nw := zw_nest) (av := [.ref sf, .int (xs 1), .int 0, .ref ob]) (rest := []) ⟨hx, hb, hml, hown, hts⟩ (m_L_ofFacex l hl9 dC dI ca sf ad ad2 ob zMi zMi (xs 1) 0 (z_ni0 _)) (vx_cwSW 4 hts gL_law_L_ofFace rfl rfl rfl (by decide +kernel) ⟨Nat.le_of_ble_eq_true rfl, Nat.le_of_ble_eq_true rfl⟩) ⟨hT, hC1, hC2⟩ hK hN hEx zw_nest_ok rfl hl.1 rfl (Nat.le_of_ble_eq_true rfl) dL_law_1090 ⟨(by show 146 + 1 ≤ 656031; omega), (by show 780 + 6 ≤ 7134144; omega)⟩ hS (fun H locs oq1 hz1 hS => ?_)
    have hMo := va_at.kept hMo (oq1 _ (va_at.lt hMo))
    have hR := hR.kept (fun i hi => oq1 _ (hR.lt hi))
    have hO := va_at.kept hO (oq1 _ (va_at.lt hO))
    refine lv_istore (lv' := [(5, .int 1), (4, .int 0), (3, .ref ob), (2, .ref mo), (1, .ref sf), (0, .ref b)]) hx hb dL_law_1093 hl (by decide) rfl (fun ls hl => ?_)
    refine lv_aload_n hx hb dL_law_1095 rfl (lv_at hl 3 rfl) ?_
    refine lv_aload_n hx hb dL_law_1096 rfl (lv_at hl 5 rfl) ?_
    refine lv_iload hx hb dL_law_1097 (lv_at hl 1 rfl) ?_
    refine lv_iconst (v := 1) hx hb dL_law_1099 (by decide) ?_
    refine lv_iadd hx hb dL_law_1100 ?_
    refine y_num (b := 1) (by decide) ?_
    refine va_sld hx hb hX hbl hbA hS (show vp_in 1 6 from zx (n := 1) rfl (by decide) (by decide)) dL_law_1101 ?_
    refine y_num (b := (xs 1)) (show xs 1 = (xs 1) from rfl) ?_
    refine lv_aload_n hx hb dL_law_1102 rfl (lv_at hl 5 rfl) ?_
    refine lv_iload hx hb dL_law_1103 (lv_at hl 1 rfl) ?_
    refine lv_iconst (v := 2) hx hb dL_law_1105 (by decide) ?_
    refine lv_iadd hx hb dL_law_1106 ?_
    refine y_num (b := 2) (by decide) ?_
    refine va_sld hx hb hX hbl hbA hS (show vp_in 2 6 from zx (n := 2) rfl (by decide) (by decide)) dL_law_1107 ?_
    refine y_num (b := (xs 2)) (show xs 2 = (xs 2) from rfl) ?_
    refine lv_if_eq (tgt := 1115) hx hb dL_law_1108 (by decide) (fun _ => ?_) (fun c9 => absurd z0 c9)
    refine lv_iconst (v := 0) hx hb dL_law_1115 (by decide) ?_
    refine y_cVi (D := (dC, dI)) (cl := vwCl) (tys := yt ca) (nw := zw_nest) (C := RX10) (As := [.int (xs 1), .int 0]) (rest := []) ⟨hx, hb, hml, hown, hts⟩ (m_X10_ofFace l dC dI ca mo _ ar hIr hmr 0 0 (xs 1) 0 ) (cwV 2 hts gL_law_X10_ofFace rfl rfl rfl (by decide +kernel) ⟨Nat.le_of_ble_eq_true rfl, Nat.le_of_ble_eq_true rfl⟩) (va_recv hK9 (y_one hMo) (ci := 10) rfl (q0 := 0) rfl) ⟨rfl, hMo, hR⟩ hK9 hN hAO zw_nest_ok rfl hl.1 rfl (Nat.le_of_ble_eq_true rfl) dL_law_1116 ⟨(by show 147 + 0 ≤ 656031; omega), (by show 786 + 0 ≤ 7134144; omega)⟩ hS (yA_law hmo (fun i hi => Nat.le_trans hmo (Nat.le_of_lt (hrb i hi).1)) hS.1) (fun H locs hB1 oq1 hz1 hS => ?_)
    have hO := va_at.kept hO (oq1 _ (va_at.lt hO) (yA_ob hob hrb (va_at.lt hO)))
    obtain ⟨hMo, hR⟩ := hB1
    refine lv_istore (lv' := [(6, .int 0), (5, .int 1), (4, .int 0), (3, .ref ob), (2, .ref mo), (1, .ref sf), (0, .ref b)]) hx hb dL_law_1119 hl (by decide) rfl (fun ls hl => ?_)
    refine lv_aload_n hx hb dL_law_1121 rfl (lv_at hl 4 rfl) ?_
    refine y_cVi (D := (dC, dI)) (cl := vwCl) (tys := yt ca) (nw := zw_nest) (C := RX10) (As := []) (rest := []) ⟨hx, hb, hml, hown, hts⟩ (m_X10_thrown0 l dC dI ca mo (ar 0) 1 0) (cwV 0 hts gL_law_X10_thrown rfl rfl rfl (by decide +kernel) ⟨Nat.le_of_ble_eq_true rfl, Nat.le_of_ble_eq_true rfl⟩) (va_recv hK9 (y_one hMo) (ci := 10) rfl (q0 := 0) rfl) hMo hK9 hN hAO zw_nest_ok rfl hl.1 rfl (Nat.le_of_ble_eq_true rfl) dL_law_1122 ⟨(by show 147 + 0 ≤ 656031; omega), (by show 786 + 0 ≤ 7134144; omega)⟩ hS (fun _ h => h.elim) (fun H locs hB1 oq1 hz1 hS => ?_)
    have hO := va_at.kept hO (oq1 _ (va_at.lt hO) (fun h => h))
    refine lv_iload hx hb dL_law_1125 (lv_at hl 1 rfl) ?_
    refine lv_icmp_eq (tgt := 1132) hx hb dL_law_1127 (by decide) (fun _ => ?_) (fun c9 => absurd rfl c9)
    refine lv_iload hx hb dL_law_1132 (lv_at hl 1 rfl) ?_
    refine lv_if_ne (tgt := 1149) hx hb dL_law_1134 (by decide) (fun _ => ?_) (fun c9 => absurd c9 (by decide))
    refine lv_goto (tgt := 1716) hx hb dL_law_1149 (by decide) ?_
    refine W.widen (k := 656031) (n := 7134144) (by show 147 ≤ 656031; omega) (by show 786 ≤ 7134144; omega) ?_
    exact hJ _ _ _ (lv_sub hl [2, 3, 4, 5, 6] rfl) hS
  · refine lv_iconst (v := 1) hx hb dL_law_1084 (by decide) ?_
    refine lv_goto (tgt := 1089) hx hb dL_law_1085 (by decide) ?_
    refine lv_aload_n hx hb dL_law_1089 rfl (lv_at hl 1 rfl) ?_
    refine z_cWx (D := (dC, dI)) (cl := vwCl) (tys := lt9 ca) (nw := zw_nest) (av := [.ref sf, .int (xs 1), .int 1, .ref ob]) (rest := []) ⟨hx, hb, hml, hown, hts⟩ (m_L_ofFacex l hl9 dC dI ca sf ad ad2 ob zMi zMi (xs 1) 1 (z_ni0 _)) (vx_cwSW 4 hts gL_law_L_ofFace rfl rfl rfl (by decide +kernel) ⟨Nat.le_of_ble_eq_true rfl, Nat.le_of_ble_eq_true rfl⟩) ⟨hT, hC1, hC2⟩ hK hN hEx zw_nest_ok rfl hl.1 rfl (Nat.le_of_ble_eq_true rfl) dL_law_1090 ⟨(by show 146 + 1 ≤ 656031; omega), (by show 780 + 6 ≤ 7134144; omega)⟩ hS (fun H locs oq1 hz1 hS => ?_)
    have hMo := va_at.kept hMo (oq1 _ (va_at.lt hMo))
    have hR := hR.kept (fun i hi => oq1 _ (hR.lt hi))
    have hO := va_at.kept hO (oq1 _ (va_at.lt hO))
    refine lv_istore (lv' := [(5, .int 1), (4, .int 0), (3, .ref ob), (2, .ref mo), (1, .ref sf), (0, .ref b)]) hx hb dL_law_1093 hl (by decide) rfl (fun ls hl => ?_)
    refine lv_aload_n hx hb dL_law_1095 rfl (lv_at hl 3 rfl) ?_
    refine lv_aload_n hx hb dL_law_1096 rfl (lv_at hl 5 rfl) ?_
    refine lv_iload hx hb dL_law_1097 (lv_at hl 1 rfl) ?_
    refine lv_iconst (v := 1) hx hb dL_law_1099 (by decide) ?_
    refine lv_iadd hx hb dL_law_1100 ?_
    refine y_num (b := 1) (by decide) ?_
    refine va_sld hx hb hX hbl hbA hS (show vp_in 1 6 from zx (n := 1) rfl (by decide) (by decide)) dL_law_1101 ?_
    refine y_num (b := (xs 1)) (show xs 1 = (xs 1) from rfl) ?_
    refine lv_aload_n hx hb dL_law_1102 rfl (lv_at hl 5 rfl) ?_
    refine lv_iload hx hb dL_law_1103 (lv_at hl 1 rfl) ?_
    refine lv_iconst (v := 2) hx hb dL_law_1105 (by decide) ?_
    refine lv_iadd hx hb dL_law_1106 ?_
    refine y_num (b := 2) (by decide) ?_
    refine va_sld hx hb hX hbl hbA hS (show vp_in 2 6 from zx (n := 2) rfl (by decide) (by decide)) dL_law_1107 ?_
    refine y_num (b := (xs 2)) (show xs 2 = (xs 2) from rfl) ?_
    refine lv_if_eq (tgt := 1115) hx hb dL_law_1108 (by decide) (fun c9 => absurd c9 z0) (fun _ => ?_)
    refine lv_iconst (v := 1) hx hb dL_law_1111 (by decide) ?_
    refine lv_goto (tgt := 1116) hx hb dL_law_1112 (by decide) ?_
    refine y_cVi (D := (dC, dI)) (cl := vwCl) (tys := yt ca) (nw := zw_nest) (C := RX10) (As := [.int (xs 1), .int 1]) (rest := []) ⟨hx, hb, hml, hown, hts⟩ (m_X10_ofFace l dC dI ca mo _ ar hIr hmr 0 0 (xs 1) 1 ) (cwV 2 hts gL_law_X10_ofFace rfl rfl rfl (by decide +kernel) ⟨Nat.le_of_ble_eq_true rfl, Nat.le_of_ble_eq_true rfl⟩) (va_recv hK9 (y_one hMo) (ci := 10) rfl (q0 := 0) rfl) ⟨rfl, hMo, hR⟩ hK9 hN hAO zw_nest_ok rfl hl.1 rfl (Nat.le_of_ble_eq_true rfl) dL_law_1116 ⟨(by show 147 + 0 ≤ 656031; omega), (by show 786 + 0 ≤ 7134144; omega)⟩ hS (yA_law hmo (fun i hi => Nat.le_trans hmo (Nat.le_of_lt (hrb i hi).1)) hS.1) (fun H locs hB1 oq1 hz1 hS => ?_)
    have hO := va_at.kept hO (oq1 _ (va_at.lt hO) (yA_ob hob hrb (va_at.lt hO)))
    obtain ⟨hMo, hR⟩ := hB1
    refine lv_istore (lv' := [(6, .int 0), (5, .int 1), (4, .int 0), (3, .ref ob), (2, .ref mo), (1, .ref sf), (0, .ref b)]) hx hb dL_law_1119 hl (by decide) rfl (fun ls hl => ?_)
    refine lv_aload_n hx hb dL_law_1121 rfl (lv_at hl 4 rfl) ?_
    refine y_cVi (D := (dC, dI)) (cl := vwCl) (tys := yt ca) (nw := zw_nest) (C := RX10) (As := []) (rest := []) ⟨hx, hb, hml, hown, hts⟩ (m_X10_thrown0 l dC dI ca mo (ar 0) 1 0) (cwV 0 hts gL_law_X10_thrown rfl rfl rfl (by decide +kernel) ⟨Nat.le_of_ble_eq_true rfl, Nat.le_of_ble_eq_true rfl⟩) (va_recv hK9 (y_one hMo) (ci := 10) rfl (q0 := 0) rfl) hMo hK9 hN hAO zw_nest_ok rfl hl.1 rfl (Nat.le_of_ble_eq_true rfl) dL_law_1122 ⟨(by show 147 + 0 ≤ 656031; omega), (by show 786 + 0 ≤ 7134144; omega)⟩ hS (fun _ h => h.elim) (fun H locs hB1 oq1 hz1 hS => ?_)
    have hO := va_at.kept hO (oq1 _ (va_at.lt hO) (fun h => h))
    refine lv_iload hx hb dL_law_1125 (lv_at hl 1 rfl) ?_
    refine lv_icmp_eq (tgt := 1132) hx hb dL_law_1127 (by decide) (fun _ => ?_) (fun c9 => absurd rfl c9)
    refine lv_iload hx hb dL_law_1132 (lv_at hl 1 rfl) ?_
    refine lv_if_ne (tgt := 1149) hx hb dL_law_1134 (by decide) (fun _ => ?_) (fun c9 => absurd c9 (by decide))
    refine lv_goto (tgt := 1716) hx hb dL_law_1149 (by decide) ?_
    refine W.widen (k := 656031) (n := 7134144) (by show 147 ≤ 656031; omega) (by show 786 ≤ 7134144; omega) ?_
    exact hJ _ _ _ (lv_sub hl [2, 3, 4, 5, 6] rfl) hS
set_option maxHeartbeats 4000000 in
set_option maxRecDepth 100000 in
theorem la_pond {p : Program} {e : Env} {s : State} {m : MethodId} {below : List Frame} {meth : Method} {c : Code} {Q : State → Prop} (l : Launch) (hl9 : l.stackTraces = false) {b : Nat} {xs : Nat → Int32} (dC : Nat → ClassId) (dI : Nat → Nat → Nat) (ca : Nat → ClassId)
    (hx : p.tables.exec = Jvm.exec) (hb : c.code = cL_law) (hml : c.maxLocals = 9) (hown : s.vm.findClass RL = some m.cls) (hts : ∀ w ∈ wsL_law, w.before #[Value.ref b] s = true) (hX : va_X b 6 xs s s.heap) (hbl : b < s.heap.size) (hK : va_K (dC, dI) vwCl (lt9 ca) s) (hN : z_N zw_nest s) (hAO : va_AOA .int s) (hEx : zEx9 (fun q => s.heap.size ≤ q) s)
    (sf mo ob : Nat) (ad ad2 ar : Nat → Nat) (hI : z_I zd ad) (hI2 : z_I zd ad2) (hq : zSep sf ad ad2) (hA2 : ∀ q, zA2 ad ad2 q → s.heap.size ≤ q ∧ q < mo) (hIr : z_I yd ar) (hrb : ∀ i, yd.1 i < 200 → mo < ar i ∧ ar i < ob) (hmo : s.heap.size ≤ mo) (hob : mo < ob)
    (H : Heap) (locs : List Loc) (ls : Array Slot) (hl : lv_has ls 9 [(4, .int 0), (3, .ref ob), (2, .ref mo), (1, .ref sf), (0, .ref b)]) (hT : zT dC dI ca sf (ad 0) (ad2 0) H) (hC1 : zW dC dI ca ad zMi H) (hC2 : zW dC dI ca ad2 zMi H) (hMo : yMo dC dI mo 0 (ar 0) 0 H) (hR : yW dC dI ca ar (yM 0) H) (hO : yO dC dI ca ob (fun _ => 0) H) (hS : va_S (fun q => s.heap.size ≤ q) s.heap H locs)
    (hJ : ∀ (H : Heap) (locs : List Loc) (ls : Array Slot), lv_has ls 9 [(4, .int 0), (3, .ref ob), (2, .ref mo), (1, .ref sf), (0, .ref b)] → va_S (fun q => s.heap.size ≤ q) s.heap H locs → W p l e room_1 s m #[Value.ref b] below meth c H locs 656031 7134144 Q (F0 m 1716 ls [])) : W p l e room_1 s m #[Value.ref b] below meth c H locs 146 780 Q (F0 m 1152 ls []) := by
  have hbA : ¬ (fun q => s.heap.size ≤ q) b := Nat.not_le.mpr hbl
  have hK5 : va_K (dC, dI) vwCl (zt ca) s := va_K.sub hK [0, 1, 2, 3, 4] rfl
  have hK9 : va_K (dC, dI) vwCl (yt ca) s := va_K.sub hK [0, 5] rfl
  have hmr : ∀ i, yd.1 i < 200 → ar i ≠ mo := fun i hi => by have h1 := hrb i hi; omega
  have hob2 : ¬ zA2 ad ad2 ob := fun h => by have h1 := hA2 _ h; omega
  have hAz : ∀ q, zA2 ad ad2 q → (fun q => s.heap.size ≤ q) q := fun q h => (hA2 q h).1
  have hAo : ∀ q, zAo ad ad2 ob q → (fun q => s.heap.size ≤ q) q := by
    rintro q (h | h)
    · exact (hA2 q h).1
    · rw [h]; show s.heap.size ≤ ob; omega
  have hmoA : ¬ zAo ad ad2 ob mo := by
    rintro (h | h)
    · have h1 := hA2 _ h; omega
    · omega
  have hrA : ∀ i, yd.1 i < 200 → ¬ zAo ad ad2 ob (ar i) := fun i hi => by
    have h2 := hrb i hi
    rintro (h | h)
    · have h1 := hA2 _ h; omega
    · omega
  by_cases h : z_rg (xs 1) 0 3
  · refine lv_aload_n hx hb dL_law_1152 rfl (lv_at hl 3 rfl) ?_
    refine lv_aload_n hx hb dL_law_1153 rfl (lv_at hl 4 rfl) ?_
    refine lv_iload hx hb dL_law_1154 (lv_at hl 0 rfl) ?_
    refine lv_iconst (v := 1) hx hb dL_law_1156 (by decide) ?_
    refine lv_iadd hx hb dL_law_1157 ?_
    refine y_num (b := 1) (by decide) ?_
    refine va_sld hx hb hX hbl hbA hS (show vp_in 1 6 from zx (n := 1) rfl (by decide) (by decide)) dL_law_1158 ?_
    refine y_num (b := (xs 1)) (show xs 1 = (xs 1) from rfl) ?_
    refine lv_aload_n hx hb dL_law_1159 rfl (lv_at hl 1 rfl) ?_
    refine z_cW (D := (dC, dI)) (cl := vwCl) (tys := lt9 ca) (nw := zw_nest) (av := [.ref sf, .int (xs 1), .ref ob]) (rest := []) ⟨hx, hb, hml, hown, hts⟩ (m_L_pondy l dC dI ca sf ad hI ad2 hI2 hq ob hob2 (fun _ => 0) zMi zMi (xs 1) zOkMi h) (vx_cwSW 3 hts gL_law_L_pond rfl rfl rfl (by decide +kernel) ⟨Nat.le_of_ble_eq_true rfl, Nat.le_of_ble_eq_true rfl⟩) ⟨⟨hT, hC1, hC2⟩, hO⟩ hK hN zw_nest_ok rfl hl.1 rfl (Nat.le_of_ble_eq_true rfl) dL_law_1160 ⟨(by show 146 + 0 ≤ 656031; omega), (by show 780 + 0 ≤ 7134144; omega)⟩ hS hAo (fun H locs hB1 oq1 hz1 hS => ?_)
    have hO := hB1
    rw [vX_pond _] at hO
    have hMo := va_at.kept hMo (oq1 _ (va_at.lt hMo) hmoA)
    have hR := hR.kept (fun i hi => oq1 _ (hR.lt hi) (hrA i hi))
    refine lv_istore (lv' := [(5, .int 0), (4, .int 0), (3, .ref ob), (2, .ref mo), (1, .ref sf), (0, .ref b)]) hx hb dL_law_1163 hl (by decide) rfl (fun ls hl => ?_)
    refine lv_aload_n hx hb dL_law_1165 rfl (lv_at hl 3 rfl) ?_
    refine lv_aload_n hx hb dL_law_1166 rfl (lv_at hl 5 rfl) ?_
    refine lv_iload hx hb dL_law_1167 (lv_at hl 1 rfl) ?_
    refine lv_iconst (v := 1) hx hb dL_law_1169 (by decide) ?_
    refine lv_iadd hx hb dL_law_1170 ?_
    refine y_num (b := 1) (by decide) ?_
    refine va_sld hx hb hX hbl hbA hS (show vp_in 1 6 from zx (n := 1) rfl (by decide) (by decide)) dL_law_1171 ?_
    refine y_num (b := (xs 1)) (show xs 1 = (xs 1) from rfl) ?_
    refine y_cVi (D := (dC, dI)) (cl := vwCl) (tys := yt ca) (nw := zw_nest) (C := RX10) (As := [.int (xs 1)]) (rest := []) ⟨hx, hb, hml, hown, hts⟩ (m_X10_pondy l dC dI ca mo _ ar hIr hmr 0 0 (xs 1) h) (cwV 1 hts gL_law_X10_pond rfl rfl rfl (by decide +kernel) ⟨Nat.le_of_ble_eq_true rfl, Nat.le_of_ble_eq_true rfl⟩) (va_recv hK9 (y_one hMo) (ci := 10) rfl (q0 := 0) rfl) ⟨rfl, hMo, hR⟩ hK9 hN hAO zw_nest_ok rfl hl.1 rfl (Nat.le_of_ble_eq_true rfl) dL_law_1172 ⟨(by show 146 + 0 ≤ 656031; omega), (by show 780 + 0 ≤ 7134144; omega)⟩ hS (yA_law hmo (fun i hi => Nat.le_trans hmo (Nat.le_of_lt (hrb i hi).1)) hS.1) (fun H locs hB1 oq1 hz1 hS => ?_)
    have hO := va_at.kept hO (oq1 _ (va_at.lt hO) (yA_ob hob hrb (va_at.lt hO)))
    obtain ⟨hMo, hR⟩ := hB1
    refine lv_istore (lv' := [(6, .int 0), (5, .int 0), (4, .int 0), (3, .ref ob), (2, .ref mo), (1, .ref sf), (0, .ref b)]) hx hb dL_law_1175 hl (by decide) rfl (fun ls hl => ?_)
    refine lv_aload_n hx hb dL_law_1177 rfl (lv_at hl 4 rfl) ?_
    refine y_cVi (D := (dC, dI)) (cl := vwCl) (tys := yt ca) (nw := zw_nest) (C := RX10) (As := []) (rest := []) ⟨hx, hb, hml, hown, hts⟩ (m_X10_thrown0 l dC dI ca mo (ar 0) 0 0) (cwV 0 hts gL_law_X10_thrown rfl rfl rfl (by decide +kernel) ⟨Nat.le_of_ble_eq_true rfl, Nat.le_of_ble_eq_true rfl⟩) (va_recv hK9 (y_one hMo) (ci := 10) rfl (q0 := 0) rfl) hMo hK9 hN hAO zw_nest_ok rfl hl.1 rfl (Nat.le_of_ble_eq_true rfl) dL_law_1178 ⟨(by show 146 + 0 ≤ 656031; omega), (by show 780 + 0 ≤ 7134144; omega)⟩ hS (fun _ h => h.elim) (fun H locs hB1 oq1 hz1 hS => ?_)
    have hO := va_at.kept hO (oq1 _ (va_at.lt hO) (fun h => h))
    refine lv_iload hx hb dL_law_1181 (lv_at hl 1 rfl) ?_
    refine lv_icmp_eq (tgt := 1188) hx hb dL_law_1183 (by decide) (fun _ => ?_) (fun c9 => absurd rfl c9)
    refine lv_iload hx hb dL_law_1188 (lv_at hl 1 rfl) ?_
    refine lv_if_ne (tgt := 1205) hx hb dL_law_1190 (by decide) (fun c9 => absurd c9 (by decide)) (fun _ => ?_)
    refine lv_aload_n hx hb dL_law_1193 rfl (lv_at hl 3 rfl) ?_
    refine lv_iconst (v := 0) hx hb dL_law_1194 (by decide) ?_
    refine va_lald hx hb hK (y_one hO) 0 6 rfl rfl (zx (n := 0) (N := 1) (x := 0) rfl (by decide) (by decide)) dL_law_1195 ?_
    refine y_lng (b := (0 : Int32).toInt64) rfl ?_
    refine lv_iload hx hb dL_law_1196 (lv_at hl 0 rfl) ?_
    refine lv_i2l hx hb dL_law_1198 rfl ?_
    refine W.lcmp hx hb dL_law_1199 ?_
    refine y_num (b := 0) (lg_self _) ?_
    refine lv_if_eq (tgt := 1205) hx hb dL_law_1200 (by decide) (fun _ => ?_) (fun c9 => absurd rfl c9)
    refine lv_goto (tgt := 1716) hx hb dL_law_1205 (by decide) ?_
    refine W.widen (k := 656031) (n := 7134144) (by show 146 ≤ 656031; omega) (by show 780 ≤ 7134144; omega) ?_
    exact hJ _ _ _ (lv_sub hl [2, 3, 4, 5, 6] rfl) hS
  · skip
    refine lv_aload_n hx hb dL_law_1152 rfl (lv_at hl 3 rfl) ?_
    refine lv_aload_n hx hb dL_law_1153 rfl (lv_at hl 4 rfl) ?_
    refine lv_iload hx hb dL_law_1154 (lv_at hl 0 rfl) ?_
    refine lv_iconst (v := 1) hx hb dL_law_1156 (by decide) ?_
    refine lv_iadd hx hb dL_law_1157 ?_
    refine y_num (b := 1) (by decide) ?_
    refine va_sld hx hb hX hbl hbA hS (show vp_in 1 6 from zx (n := 1) rfl (by decide) (by decide)) dL_law_1158 ?_
    refine y_num (b := (xs 1)) (show xs 1 = (xs 1) from rfl) ?_
    refine lv_aload_n hx hb dL_law_1159 rfl (lv_at hl 1 rfl) ?_
    refine z_cWx (D := (dC, dI)) (cl := vwCl) (tys := lt9 ca) (nw := zw_nest) (av := [.ref sf, .int (xs 1), .ref ob]) (rest := []) ⟨hx, hb, hml, hown, hts⟩ (m_L_pondx l hl9 dC dI ca sf ad ad2 ob zMi zMi (xs 1) h) (vx_cwSW 3 hts gL_law_L_pond rfl rfl rfl (by decide +kernel) ⟨Nat.le_of_ble_eq_true rfl, Nat.le_of_ble_eq_true rfl⟩) ⟨hT, hC1, hC2⟩ hK hN hEx zw_nest_ok rfl hl.1 rfl (Nat.le_of_ble_eq_true rfl) dL_law_1160 ⟨(by show 146 + 1 ≤ 656031; omega), (by show 780 + 6 ≤ 7134144; omega)⟩ hS (fun H locs oq1 hz1 hS => ?_)
    have hMo := va_at.kept hMo (oq1 _ (va_at.lt hMo))
    have hR := hR.kept (fun i hi => oq1 _ (hR.lt hi))
    have hO := va_at.kept hO (oq1 _ (va_at.lt hO))
    refine lv_istore (lv' := [(5, .int 1), (4, .int 0), (3, .ref ob), (2, .ref mo), (1, .ref sf), (0, .ref b)]) hx hb dL_law_1163 hl (by decide) rfl (fun ls hl => ?_)
    refine lv_aload_n hx hb dL_law_1165 rfl (lv_at hl 3 rfl) ?_
    refine lv_aload_n hx hb dL_law_1166 rfl (lv_at hl 5 rfl) ?_
    refine lv_iload hx hb dL_law_1167 (lv_at hl 1 rfl) ?_
    refine lv_iconst (v := 1) hx hb dL_law_1169 (by decide) ?_
    refine lv_iadd hx hb dL_law_1170 ?_
    refine y_num (b := 1) (by decide) ?_
    refine va_sld hx hb hX hbl hbA hS (show vp_in 1 6 from zx (n := 1) rfl (by decide) (by decide)) dL_law_1171 ?_
    refine y_num (b := (xs 1)) (show xs 1 = (xs 1) from rfl) ?_
    refine y_cVi (D := (dC, dI)) (cl := vwCl) (tys := yt ca) (nw := zw_nest) (C := RX10) (As := [.int (xs 1)]) (rest := []) ⟨hx, hb, hml, hown, hts⟩ (m_X10_pondn l dC dI ca mo _ ar hIr hmr 0 0 (xs 1) h) (cwV 1 hts gL_law_X10_pond rfl rfl rfl (by decide +kernel) ⟨Nat.le_of_ble_eq_true rfl, Nat.le_of_ble_eq_true rfl⟩) (va_recv hK9 (y_one hMo) (ci := 10) rfl (q0 := 0) rfl) ⟨rfl, hMo, hR⟩ hK9 hN hAO zw_nest_ok rfl hl.1 rfl (Nat.le_of_ble_eq_true rfl) dL_law_1172 ⟨(by show 147 + 0 ≤ 656031; omega), (by show 786 + 0 ≤ 7134144; omega)⟩ hS (yA_law hmo (fun i hi => Nat.le_trans hmo (Nat.le_of_lt (hrb i hi).1)) hS.1) (fun H locs hB1 oq1 hz1 hS => ?_)
    have hO := va_at.kept hO (oq1 _ (va_at.lt hO) (yA_ob hob hrb (va_at.lt hO)))
    obtain ⟨hMo, hR⟩ := hB1
    refine lv_istore (lv' := [(6, .int 0), (5, .int 1), (4, .int 0), (3, .ref ob), (2, .ref mo), (1, .ref sf), (0, .ref b)]) hx hb dL_law_1175 hl (by decide) rfl (fun ls hl => ?_)
    refine lv_aload_n hx hb dL_law_1177 rfl (lv_at hl 4 rfl) ?_
    refine y_cVi (D := (dC, dI)) (cl := vwCl) (tys := yt ca) (nw := zw_nest) (C := RX10) (As := []) (rest := []) ⟨hx, hb, hml, hown, hts⟩ (m_X10_thrown0 l dC dI ca mo (ar 0) 1 0) (cwV 0 hts gL_law_X10_thrown rfl rfl rfl (by decide +kernel) ⟨Nat.le_of_ble_eq_true rfl, Nat.le_of_ble_eq_true rfl⟩) (va_recv hK9 (y_one hMo) (ci := 10) rfl (q0 := 0) rfl) hMo hK9 hN hAO zw_nest_ok rfl hl.1 rfl (Nat.le_of_ble_eq_true rfl) dL_law_1178 ⟨(by show 147 + 0 ≤ 656031; omega), (by show 786 + 0 ≤ 7134144; omega)⟩ hS (fun _ h => h.elim) (fun H locs hB1 oq1 hz1 hS => ?_)
    have hO := va_at.kept hO (oq1 _ (va_at.lt hO) (fun h => h))
    refine lv_iload hx hb dL_law_1181 (lv_at hl 1 rfl) ?_
    refine lv_icmp_eq (tgt := 1188) hx hb dL_law_1183 (by decide) (fun _ => ?_) (fun c9 => absurd rfl c9)
    refine lv_iload hx hb dL_law_1188 (lv_at hl 1 rfl) ?_
    refine lv_if_ne (tgt := 1205) hx hb dL_law_1190 (by decide) (fun _ => ?_) (fun c9 => absurd c9 (by decide))
    refine lv_goto (tgt := 1716) hx hb dL_law_1205 (by decide) ?_
    refine W.widen (k := 656031) (n := 7134144) (by show 147 ≤ 656031; omega) (by show 786 ≤ 7134144; omega) ?_
    exact hJ _ _ _ (lv_sub hl [2, 3, 4, 5, 6] rfl) hS
set_option maxHeartbeats 4000000 in
set_option maxRecDepth 100000 in
theorem la_ofOwner {p : Program} {e : Env} {s : State} {m : MethodId} {below : List Frame} {meth : Method} {c : Code} {Q : State → Prop} (l : Launch) (hl9 : l.stackTraces = false) {b : Nat} {xs : Nat → Int32} (dC : Nat → ClassId) (dI : Nat → Nat → Nat) (ca : Nat → ClassId)
    (hx : p.tables.exec = Jvm.exec) (hb : c.code = cL_law) (hml : c.maxLocals = 9) (hown : s.vm.findClass RL = some m.cls) (hts : ∀ w ∈ wsL_law, w.before #[Value.ref b] s = true) (hX : va_X b 6 xs s s.heap) (hbl : b < s.heap.size) (hK : va_K (dC, dI) vwCl (lt9 ca) s) (hN : z_N zw_nest s) (hAO : va_AOA .int s) (hEx : zEx9 (fun q => s.heap.size ≤ q) s)
    (sf mo ob : Nat) (ad ad2 ar : Nat → Nat) (hI : z_I zd ad) (hI2 : z_I zd ad2) (hq : zSep sf ad ad2) (hA2 : ∀ q, zA2 ad ad2 q → s.heap.size ≤ q ∧ q < mo) (hIr : z_I yd ar) (hrb : ∀ i, yd.1 i < 200 → mo < ar i ∧ ar i < ob) (hmo : s.heap.size ≤ mo) (hob : mo < ob)
    (H : Heap) (locs : List Loc) (ls : Array Slot) (hl : lv_has ls 9 [(4, .int 0), (3, .ref ob), (2, .ref mo), (1, .ref sf), (0, .ref b)]) (hT : zT dC dI ca sf (ad 0) (ad2 0) H) (hC1 : zW dC dI ca ad zMi H) (hC2 : zW dC dI ca ad2 zMi H) (hMo : yMo dC dI mo 0 (ar 0) 0 H) (hR : yW dC dI ca ar (yM 0) H) (hO : yO dC dI ca ob (fun _ => 0) H) (hS : va_S (fun q => s.heap.size ≤ q) s.heap H locs)
    (hJ : ∀ (H : Heap) (locs : List Loc) (ls : Array Slot), lv_has ls 9 [(4, .int 0), (3, .ref ob), (2, .ref mo), (1, .ref sf), (0, .ref b)] → va_S (fun q => s.heap.size ≤ q) s.heap H locs → W p l e room_1 s m #[Value.ref b] below meth c H locs 656031 7134144 Q (F0 m 1716 ls [])) : W p l e room_1 s m #[Value.ref b] below meth c H locs 146 780 Q (F0 m 1208 ls []) := by
  have hbA : ¬ (fun q => s.heap.size ≤ q) b := Nat.not_le.mpr hbl
  have hK5 : va_K (dC, dI) vwCl (zt ca) s := va_K.sub hK [0, 1, 2, 3, 4] rfl
  have hK9 : va_K (dC, dI) vwCl (yt ca) s := va_K.sub hK [0, 5] rfl
  have hmr : ∀ i, yd.1 i < 200 → ar i ≠ mo := fun i hi => by have h1 := hrb i hi; omega
  have hob2 : ¬ zA2 ad ad2 ob := fun h => by have h1 := hA2 _ h; omega
  have hAz : ∀ q, zA2 ad ad2 q → (fun q => s.heap.size ≤ q) q := fun q h => (hA2 q h).1
  have hAo : ∀ q, zAo ad ad2 ob q → (fun q => s.heap.size ≤ q) q := by
    rintro q (h | h)
    · exact (hA2 q h).1
    · rw [h]; show s.heap.size ≤ ob; omega
  have hmoA : ¬ zAo ad ad2 ob mo := by
    rintro (h | h)
    · have h1 := hA2 _ h; omega
    · omega
  have hrA : ∀ i, yd.1 i < 200 → ¬ zAo ad ad2 ob (ar i) := fun i hi => by
    have h2 := hrb i hi
    rintro (h | h)
    · have h1 := hA2 _ h; omega
    · omega
  by_cases h : z_rg (xs 1) 0 1
  · skip
    by_cases h2 : z_rg (xs 2) 0 1
    · skip
      refine lv_aload_n hx hb dL_law_1208 rfl (lv_at hl 3 rfl) ?_
      refine lv_aload_n hx hb dL_law_1209 rfl (lv_at hl 4 rfl) ?_
      refine lv_iload hx hb dL_law_1210 (lv_at hl 0 rfl) ?_
      refine lv_iconst (v := 1) hx hb dL_law_1212 (by decide) ?_
      refine lv_iadd hx hb dL_law_1213 ?_
      refine y_num (b := 1) (by decide) ?_
      refine va_sld hx hb hX hbl hbA hS (show vp_in 1 6 from zx (n := 1) rfl (by decide) (by decide)) dL_law_1214 ?_
      refine y_num (b := (xs 1)) (show xs 1 = (xs 1) from rfl) ?_
      refine lv_aload_n hx hb dL_law_1215 rfl (lv_at hl 4 rfl) ?_
      refine lv_iload hx hb dL_law_1216 (lv_at hl 0 rfl) ?_
      refine lv_iconst (v := 2) hx hb dL_law_1218 (by decide) ?_
      refine lv_iadd hx hb dL_law_1219 ?_
      refine y_num (b := 2) (by decide) ?_
      refine va_sld hx hb hX hbl hbA hS (show vp_in 2 6 from zx (n := 2) rfl (by decide) (by decide)) dL_law_1220 ?_
      refine y_num (b := (xs 2)) (show xs 2 = (xs 2) from rfl) ?_
      refine lv_aload_n hx hb dL_law_1221 rfl (lv_at hl 1 rfl) ?_
      refine z_cW (D := (dC, dI)) (cl := vwCl) (tys := lt9 ca) (nw := zw_nest) (av := [.ref sf, .int (xs 1), .int (xs 2), .ref ob]) (rest := []) ⟨hx, hb, hml, hown, hts⟩ (m_L_ofOwnery l dC dI ca sf ad hI ad2 hI2 hq ob hob2 (fun _ => 0) zMi zMi (xs 1) (xs 2) zOkMi (z_ix_rg h (by decide) (by decide)) h2) (vx_cwSW 4 hts gL_law_L_ofOwner rfl rfl rfl (by decide +kernel) ⟨Nat.le_of_ble_eq_true rfl, Nat.le_of_ble_eq_true rfl⟩) ⟨⟨hT, hC1, hC2⟩, hO⟩ hK hN zw_nest_ok rfl hl.1 rfl (Nat.le_of_ble_eq_true rfl) dL_law_1222 ⟨(by show 146 + 0 ≤ 656031; omega), (by show 780 + 0 ≤ 7134144; omega)⟩ hS hAo (fun H locs hB1 oq1 hz1 hS => ?_)
      have hO := hB1
      rw [vX_ofOwner h] at hO
      have hMo := va_at.kept hMo (oq1 _ (va_at.lt hMo) hmoA)
      have hR := hR.kept (fun i hi => oq1 _ (hR.lt hi) (hrA i hi))
      refine lv_istore (lv' := [(5, .int 0), (4, .int 0), (3, .ref ob), (2, .ref mo), (1, .ref sf), (0, .ref b)]) hx hb dL_law_1225 hl (by decide) rfl (fun ls hl => ?_)
      refine lv_aload_n hx hb dL_law_1227 rfl (lv_at hl 3 rfl) ?_
      refine lv_aload_n hx hb dL_law_1228 rfl (lv_at hl 5 rfl) ?_
      refine lv_iload hx hb dL_law_1229 (lv_at hl 1 rfl) ?_
      refine lv_iconst (v := 1) hx hb dL_law_1231 (by decide) ?_
      refine lv_iadd hx hb dL_law_1232 ?_
      refine y_num (b := 1) (by decide) ?_
      refine va_sld hx hb hX hbl hbA hS (show vp_in 1 6 from zx (n := 1) rfl (by decide) (by decide)) dL_law_1233 ?_
      refine y_num (b := (xs 1)) (show xs 1 = (xs 1) from rfl) ?_
      refine lv_aload_n hx hb dL_law_1234 rfl (lv_at hl 5 rfl) ?_
      refine lv_iload hx hb dL_law_1235 (lv_at hl 1 rfl) ?_
      refine lv_iconst (v := 2) hx hb dL_law_1237 (by decide) ?_
      refine lv_iadd hx hb dL_law_1238 ?_
      refine y_num (b := 2) (by decide) ?_
      refine va_sld hx hb hX hbl hbA hS (show vp_in 2 6 from zx (n := 2) rfl (by decide) (by decide)) dL_law_1239 ?_
      refine y_num (b := (xs 2)) (show xs 2 = (xs 2) from rfl) ?_
      refine y_cVi (D := (dC, dI)) (cl := vwCl) (tys := yt ca) (nw := zw_nest) (C := RX10) (As := [.int (xs 1), .int (xs 2)]) (rest := []) ⟨hx, hb, hml, hown, hts⟩ (m_X10_ofOwnery l dC dI ca mo _ ar hIr hmr 0 0 (xs 1) (xs 2) h h2) (cwV 2 hts gL_law_X10_ofOwner rfl rfl rfl (by decide +kernel) ⟨Nat.le_of_ble_eq_true rfl, Nat.le_of_ble_eq_true rfl⟩) (va_recv hK9 (y_one hMo) (ci := 10) rfl (q0 := 0) rfl) ⟨rfl, hMo, hR⟩ hK9 hN hAO zw_nest_ok rfl hl.1 rfl (Nat.le_of_ble_eq_true rfl) dL_law_1240 ⟨(by show 146 + 0 ≤ 656031; omega), (by show 780 + 0 ≤ 7134144; omega)⟩ hS (yA_law hmo (fun i hi => Nat.le_trans hmo (Nat.le_of_lt (hrb i hi).1)) hS.1) (fun H locs hB1 oq1 hz1 hS => ?_)
      have hO := va_at.kept hO (oq1 _ (va_at.lt hO) (yA_ob hob hrb (va_at.lt hO)))
      obtain ⟨hMo, hR⟩ := hB1
      refine lv_istore (lv' := [(6, .int (if xs 2 = 0 then 100 else 0)), (5, .int 0), (4, .int 0), (3, .ref ob), (2, .ref mo), (1, .ref sf), (0, .ref b)]) hx hb dL_law_1243 hl (by decide) rfl (fun ls hl => ?_)
      refine lv_aload_n hx hb dL_law_1245 rfl (lv_at hl 4 rfl) ?_
      refine y_cVi (D := (dC, dI)) (cl := vwCl) (tys := yt ca) (nw := zw_nest) (C := RX10) (As := []) (rest := []) ⟨hx, hb, hml, hown, hts⟩ (m_X10_thrown0 l dC dI ca mo (ar 0) 0 0) (cwV 0 hts gL_law_X10_thrown rfl rfl rfl (by decide +kernel) ⟨Nat.le_of_ble_eq_true rfl, Nat.le_of_ble_eq_true rfl⟩) (va_recv hK9 (y_one hMo) (ci := 10) rfl (q0 := 0) rfl) hMo hK9 hN hAO zw_nest_ok rfl hl.1 rfl (Nat.le_of_ble_eq_true rfl) dL_law_1246 ⟨(by show 146 + 0 ≤ 656031; omega), (by show 780 + 0 ≤ 7134144; omega)⟩ hS (fun _ h => h.elim) (fun H locs hB1 oq1 hz1 hS => ?_)
      have hO := va_at.kept hO (oq1 _ (va_at.lt hO) (fun h => h))
      refine lv_iload hx hb dL_law_1249 (lv_at hl 1 rfl) ?_
      refine lv_icmp_eq (tgt := 1256) hx hb dL_law_1251 (by decide) (fun _ => ?_) (fun c9 => absurd rfl c9)
      refine lv_iload hx hb dL_law_1256 (lv_at hl 1 rfl) ?_
      refine lv_if_ne (tgt := 1273) hx hb dL_law_1258 (by decide) (fun c9 => absurd c9 (by decide)) (fun _ => ?_)
      refine lv_aload_n hx hb dL_law_1261 rfl (lv_at hl 3 rfl) ?_
      refine lv_iconst (v := 0) hx hb dL_law_1262 (by decide) ?_
      refine va_lald hx hb hK (y_one hO) 0 6 rfl rfl (zx (n := 0) (N := 1) (x := 0) rfl (by decide) (by decide)) dL_law_1263 ?_
      refine y_lng (b := ((if xs 2 = 0 then 100 else 0) : Int32).toInt64) rfl ?_
      refine lv_iload hx hb dL_law_1264 (lv_at hl 0 rfl) ?_
      refine lv_i2l hx hb dL_law_1266 rfl ?_
      refine W.lcmp hx hb dL_law_1267 ?_
      refine y_num (b := 0) (lg_self _) ?_
      refine lv_if_eq (tgt := 1273) hx hb dL_law_1268 (by decide) (fun _ => ?_) (fun c9 => absurd rfl c9)
      refine lv_goto (tgt := 1716) hx hb dL_law_1273 (by decide) ?_
      refine W.widen (k := 656031) (n := 7134144) (by show 146 ≤ 656031; omega) (by show 780 ≤ 7134144; omega) ?_
      exact hJ _ _ _ (lv_sub hl [2, 3, 4, 5, 6] rfl) hS
    · have h9 : z_ni (xs 1) 2 := z_ni_of (z_ix_rg h (by decide) (by decide)) rfl
      refine lv_aload_n hx hb dL_law_1208 rfl (lv_at hl 3 rfl) ?_
      refine lv_aload_n hx hb dL_law_1209 rfl (lv_at hl 4 rfl) ?_
      refine lv_iload hx hb dL_law_1210 (lv_at hl 0 rfl) ?_
      refine lv_iconst (v := 1) hx hb dL_law_1212 (by decide) ?_
      refine lv_iadd hx hb dL_law_1213 ?_
      refine y_num (b := 1) (by decide) ?_
      refine va_sld hx hb hX hbl hbA hS (show vp_in 1 6 from zx (n := 1) rfl (by decide) (by decide)) dL_law_1214 ?_
      refine y_num (b := (xs 1)) (show xs 1 = (xs 1) from rfl) ?_
      refine lv_aload_n hx hb dL_law_1215 rfl (lv_at hl 4 rfl) ?_
      refine lv_iload hx hb dL_law_1216 (lv_at hl 0 rfl) ?_
      refine lv_iconst (v := 2) hx hb dL_law_1218 (by decide) ?_
      refine lv_iadd hx hb dL_law_1219 ?_
      refine y_num (b := 2) (by decide) ?_
      refine va_sld hx hb hX hbl hbA hS (show vp_in 2 6 from zx (n := 2) rfl (by decide) (by decide)) dL_law_1220 ?_
      refine y_num (b := (xs 2)) (show xs 2 = (xs 2) from rfl) ?_
      refine lv_aload_n hx hb dL_law_1221 rfl (lv_at hl 1 rfl) ?_
      refine z_cWx (D := (dC, dI)) (cl := vwCl) (tys := lt9 ca) (nw := zw_nest) (av := [.ref sf, .int (xs 1), .int (xs 2), .ref ob]) (rest := []) ⟨hx, hb, hml, hown, hts⟩ (m_L_ofOwnerz l hl9 dC dI ca sf ad ad2 ob zMi zMi (xs 1) (xs 2) h9 h2) (vx_cwSW 4 hts gL_law_L_ofOwner rfl rfl rfl (by decide +kernel) ⟨Nat.le_of_ble_eq_true rfl, Nat.le_of_ble_eq_true rfl⟩) ⟨hT, hC1, hC2⟩ hK hN hEx zw_nest_ok rfl hl.1 rfl (Nat.le_of_ble_eq_true rfl) dL_law_1222 ⟨(by show 146 + 1 ≤ 656031; omega), (by show 780 + 6 ≤ 7134144; omega)⟩ hS (fun H locs oq1 hz1 hS => ?_)
      have hMo := va_at.kept hMo (oq1 _ (va_at.lt hMo))
      have hR := hR.kept (fun i hi => oq1 _ (hR.lt hi))
      have hO := va_at.kept hO (oq1 _ (va_at.lt hO))
      refine lv_istore (lv' := [(5, .int 2), (4, .int 0), (3, .ref ob), (2, .ref mo), (1, .ref sf), (0, .ref b)]) hx hb dL_law_1225 hl (by decide) rfl (fun ls hl => ?_)
      refine lv_aload_n hx hb dL_law_1227 rfl (lv_at hl 3 rfl) ?_
      refine lv_aload_n hx hb dL_law_1228 rfl (lv_at hl 5 rfl) ?_
      refine lv_iload hx hb dL_law_1229 (lv_at hl 1 rfl) ?_
      refine lv_iconst (v := 1) hx hb dL_law_1231 (by decide) ?_
      refine lv_iadd hx hb dL_law_1232 ?_
      refine y_num (b := 1) (by decide) ?_
      refine va_sld hx hb hX hbl hbA hS (show vp_in 1 6 from zx (n := 1) rfl (by decide) (by decide)) dL_law_1233 ?_
      refine y_num (b := (xs 1)) (show xs 1 = (xs 1) from rfl) ?_
      refine lv_aload_n hx hb dL_law_1234 rfl (lv_at hl 5 rfl) ?_
      refine lv_iload hx hb dL_law_1235 (lv_at hl 1 rfl) ?_
      refine lv_iconst (v := 2) hx hb dL_law_1237 (by decide) ?_
      refine lv_iadd hx hb dL_law_1238 ?_
      refine y_num (b := 2) (by decide) ?_
      refine va_sld hx hb hX hbl hbA hS (show vp_in 2 6 from zx (n := 2) rfl (by decide) (by decide)) dL_law_1239 ?_
      refine y_num (b := (xs 2)) (show xs 2 = (xs 2) from rfl) ?_
      refine y_cVi (D := (dC, dI)) (cl := vwCl) (tys := yt ca) (nw := zw_nest) (C := RX10) (As := [.int (xs 1), .int (xs 2)]) (rest := []) ⟨hx, hb, hml, hown, hts⟩ (m_X10_ofOwnerm l dC dI ca mo _ ar hIr hmr 0 0 (xs 1) (xs 2) h h2) (cwV 2 hts gL_law_X10_ofOwner rfl rfl rfl (by decide +kernel) ⟨Nat.le_of_ble_eq_true rfl, Nat.le_of_ble_eq_true rfl⟩) (va_recv hK9 (y_one hMo) (ci := 10) rfl (q0 := 0) rfl) ⟨rfl, hMo, hR⟩ hK9 hN hAO zw_nest_ok rfl hl.1 rfl (Nat.le_of_ble_eq_true rfl) dL_law_1240 ⟨(by show 147 + 0 ≤ 656031; omega), (by show 786 + 0 ≤ 7134144; omega)⟩ hS (yA_law hmo (fun i hi => Nat.le_trans hmo (Nat.le_of_lt (hrb i hi).1)) hS.1) (fun H locs hB1 oq1 hz1 hS => ?_)
      have hO := va_at.kept hO (oq1 _ (va_at.lt hO) (yA_ob hob hrb (va_at.lt hO)))
      obtain ⟨hMo, hR⟩ := hB1
      refine lv_istore (lv' := [(6, .int 0), (5, .int 2), (4, .int 0), (3, .ref ob), (2, .ref mo), (1, .ref sf), (0, .ref b)]) hx hb dL_law_1243 hl (by decide) rfl (fun ls hl => ?_)
      refine lv_aload_n hx hb dL_law_1245 rfl (lv_at hl 4 rfl) ?_
      refine y_cVi (D := (dC, dI)) (cl := vwCl) (tys := yt ca) (nw := zw_nest) (C := RX10) (As := []) (rest := []) ⟨hx, hb, hml, hown, hts⟩ (m_X10_thrown0 l dC dI ca mo (ar 0) 2 0) (cwV 0 hts gL_law_X10_thrown rfl rfl rfl (by decide +kernel) ⟨Nat.le_of_ble_eq_true rfl, Nat.le_of_ble_eq_true rfl⟩) (va_recv hK9 (y_one hMo) (ci := 10) rfl (q0 := 0) rfl) hMo hK9 hN hAO zw_nest_ok rfl hl.1 rfl (Nat.le_of_ble_eq_true rfl) dL_law_1246 ⟨(by show 147 + 0 ≤ 656031; omega), (by show 786 + 0 ≤ 7134144; omega)⟩ hS (fun _ h => h.elim) (fun H locs hB1 oq1 hz1 hS => ?_)
      have hO := va_at.kept hO (oq1 _ (va_at.lt hO) (fun h => h))
      refine lv_iload hx hb dL_law_1249 (lv_at hl 1 rfl) ?_
      refine lv_icmp_eq (tgt := 1256) hx hb dL_law_1251 (by decide) (fun _ => ?_) (fun c9 => absurd rfl c9)
      refine lv_iload hx hb dL_law_1256 (lv_at hl 1 rfl) ?_
      refine lv_if_ne (tgt := 1273) hx hb dL_law_1258 (by decide) (fun _ => ?_) (fun c9 => absurd c9 (by decide))
      refine lv_goto (tgt := 1716) hx hb dL_law_1273 (by decide) ?_
      refine W.widen (k := 656031) (n := 7134144) (by show 147 ≤ 656031; omega) (by show 786 ≤ 7134144; omega) ?_
      exact hJ _ _ _ (lv_sub hl [2, 3, 4, 5, 6] rfl) hS
  · have h9 : ¬ z_ni (xs 1) 2 := fun h8 => h (z_rg_ni h8)
    refine lv_aload_n hx hb dL_law_1208 rfl (lv_at hl 3 rfl) ?_
    refine lv_aload_n hx hb dL_law_1209 rfl (lv_at hl 4 rfl) ?_
    refine lv_iload hx hb dL_law_1210 (lv_at hl 0 rfl) ?_
    refine lv_iconst (v := 1) hx hb dL_law_1212 (by decide) ?_
    refine lv_iadd hx hb dL_law_1213 ?_
    refine y_num (b := 1) (by decide) ?_
    refine va_sld hx hb hX hbl hbA hS (show vp_in 1 6 from zx (n := 1) rfl (by decide) (by decide)) dL_law_1214 ?_
    refine y_num (b := (xs 1)) (show xs 1 = (xs 1) from rfl) ?_
    refine lv_aload_n hx hb dL_law_1215 rfl (lv_at hl 4 rfl) ?_
    refine lv_iload hx hb dL_law_1216 (lv_at hl 0 rfl) ?_
    refine lv_iconst (v := 2) hx hb dL_law_1218 (by decide) ?_
    refine lv_iadd hx hb dL_law_1219 ?_
    refine y_num (b := 2) (by decide) ?_
    refine va_sld hx hb hX hbl hbA hS (show vp_in 2 6 from zx (n := 2) rfl (by decide) (by decide)) dL_law_1220 ?_
    refine y_num (b := (xs 2)) (show xs 2 = (xs 2) from rfl) ?_
    refine lv_aload_n hx hb dL_law_1221 rfl (lv_at hl 1 rfl) ?_
    refine z_cWx (D := (dC, dI)) (cl := vwCl) (tys := lt9 ca) (nw := zw_nest) (av := [.ref sf, .int (xs 1), .int (xs 2), .ref ob]) (rest := []) ⟨hx, hb, hml, hown, hts⟩ (m_L_ofOwnerx l hl9 dC dI ca sf ad ad2 ob zMi zMi (xs 1) (xs 2) h9) (vx_cwSW 4 hts gL_law_L_ofOwner rfl rfl rfl (by decide +kernel) ⟨Nat.le_of_ble_eq_true rfl, Nat.le_of_ble_eq_true rfl⟩) ⟨hT, hC1, hC2⟩ hK hN hEx zw_nest_ok rfl hl.1 rfl (Nat.le_of_ble_eq_true rfl) dL_law_1222 ⟨(by show 146 + 1 ≤ 656031; omega), (by show 780 + 6 ≤ 7134144; omega)⟩ hS (fun H locs oq1 hz1 hS => ?_)
    have hMo := va_at.kept hMo (oq1 _ (va_at.lt hMo))
    have hR := hR.kept (fun i hi => oq1 _ (hR.lt hi))
    have hO := va_at.kept hO (oq1 _ (va_at.lt hO))
    refine lv_istore (lv' := [(5, .int 1), (4, .int 0), (3, .ref ob), (2, .ref mo), (1, .ref sf), (0, .ref b)]) hx hb dL_law_1225 hl (by decide) rfl (fun ls hl => ?_)
    refine lv_aload_n hx hb dL_law_1227 rfl (lv_at hl 3 rfl) ?_
    refine lv_aload_n hx hb dL_law_1228 rfl (lv_at hl 5 rfl) ?_
    refine lv_iload hx hb dL_law_1229 (lv_at hl 1 rfl) ?_
    refine lv_iconst (v := 1) hx hb dL_law_1231 (by decide) ?_
    refine lv_iadd hx hb dL_law_1232 ?_
    refine y_num (b := 1) (by decide) ?_
    refine va_sld hx hb hX hbl hbA hS (show vp_in 1 6 from zx (n := 1) rfl (by decide) (by decide)) dL_law_1233 ?_
    refine y_num (b := (xs 1)) (show xs 1 = (xs 1) from rfl) ?_
    refine lv_aload_n hx hb dL_law_1234 rfl (lv_at hl 5 rfl) ?_
    refine lv_iload hx hb dL_law_1235 (lv_at hl 1 rfl) ?_
    refine lv_iconst (v := 2) hx hb dL_law_1237 (by decide) ?_
    refine lv_iadd hx hb dL_law_1238 ?_
    refine y_num (b := 2) (by decide) ?_
    refine va_sld hx hb hX hbl hbA hS (show vp_in 2 6 from zx (n := 2) rfl (by decide) (by decide)) dL_law_1239 ?_
    refine y_num (b := (xs 2)) (show xs 2 = (xs 2) from rfl) ?_
    refine y_cVi (D := (dC, dI)) (cl := vwCl) (tys := yt ca) (nw := zw_nest) (C := RX10) (As := [.int (xs 1), .int (xs 2)]) (rest := []) ⟨hx, hb, hml, hown, hts⟩ (m_X10_ofOwnern l dC dI ca mo _ ar hIr hmr 0 0 (xs 1) (xs 2) h) (cwV 2 hts gL_law_X10_ofOwner rfl rfl rfl (by decide +kernel) ⟨Nat.le_of_ble_eq_true rfl, Nat.le_of_ble_eq_true rfl⟩) (va_recv hK9 (y_one hMo) (ci := 10) rfl (q0 := 0) rfl) ⟨rfl, hMo, hR⟩ hK9 hN hAO zw_nest_ok rfl hl.1 rfl (Nat.le_of_ble_eq_true rfl) dL_law_1240 ⟨(by show 147 + 0 ≤ 656031; omega), (by show 786 + 0 ≤ 7134144; omega)⟩ hS (yA_law hmo (fun i hi => Nat.le_trans hmo (Nat.le_of_lt (hrb i hi).1)) hS.1) (fun H locs hB1 oq1 hz1 hS => ?_)
    have hO := va_at.kept hO (oq1 _ (va_at.lt hO) (yA_ob hob hrb (va_at.lt hO)))
    obtain ⟨hMo, hR⟩ := hB1
    refine lv_istore (lv' := [(6, .int 0), (5, .int 1), (4, .int 0), (3, .ref ob), (2, .ref mo), (1, .ref sf), (0, .ref b)]) hx hb dL_law_1243 hl (by decide) rfl (fun ls hl => ?_)
    refine lv_aload_n hx hb dL_law_1245 rfl (lv_at hl 4 rfl) ?_
    refine y_cVi (D := (dC, dI)) (cl := vwCl) (tys := yt ca) (nw := zw_nest) (C := RX10) (As := []) (rest := []) ⟨hx, hb, hml, hown, hts⟩ (m_X10_thrown0 l dC dI ca mo (ar 0) 1 0) (cwV 0 hts gL_law_X10_thrown rfl rfl rfl (by decide +kernel) ⟨Nat.le_of_ble_eq_true rfl, Nat.le_of_ble_eq_true rfl⟩) (va_recv hK9 (y_one hMo) (ci := 10) rfl (q0 := 0) rfl) hMo hK9 hN hAO zw_nest_ok rfl hl.1 rfl (Nat.le_of_ble_eq_true rfl) dL_law_1246 ⟨(by show 147 + 0 ≤ 656031; omega), (by show 786 + 0 ≤ 7134144; omega)⟩ hS (fun _ h => h.elim) (fun H locs hB1 oq1 hz1 hS => ?_)
    have hO := va_at.kept hO (oq1 _ (va_at.lt hO) (fun h => h))
    refine lv_iload hx hb dL_law_1249 (lv_at hl 1 rfl) ?_
    refine lv_icmp_eq (tgt := 1256) hx hb dL_law_1251 (by decide) (fun _ => ?_) (fun c9 => absurd rfl c9)
    refine lv_iload hx hb dL_law_1256 (lv_at hl 1 rfl) ?_
    refine lv_if_ne (tgt := 1273) hx hb dL_law_1258 (by decide) (fun _ => ?_) (fun c9 => absurd c9 (by decide))
    refine lv_goto (tgt := 1716) hx hb dL_law_1273 (by decide) ?_
    refine W.widen (k := 656031) (n := 7134144) (by show 147 ≤ 656031; omega) (by show 786 ≤ 7134144; omega) ?_
    exact hJ _ _ _ (lv_sub hl [2, 3, 4, 5, 6] rfl) hS
set_option maxHeartbeats 4000000 in
set_option maxRecDepth 100000 in
theorem la_mass {p : Program} {e : Env} {s : State} {m : MethodId} {below : List Frame} {meth : Method} {c : Code} {Q : State → Prop} (l : Launch) (hl9 : l.stackTraces = false) {b : Nat} {xs : Nat → Int32} (dC : Nat → ClassId) (dI : Nat → Nat → Nat) (ca : Nat → ClassId)
    (hx : p.tables.exec = Jvm.exec) (hb : c.code = cL_law) (hml : c.maxLocals = 9) (hown : s.vm.findClass RL = some m.cls) (hts : ∀ w ∈ wsL_law, w.before #[Value.ref b] s = true) (hX : va_X b 6 xs s s.heap) (hbl : b < s.heap.size) (hK : va_K (dC, dI) vwCl (lt9 ca) s) (hN : z_N zw_nest s) (hAO : va_AOA .int s) (hEx : zEx9 (fun q => s.heap.size ≤ q) s)
    (sf mo ob : Nat) (ad ad2 ar : Nat → Nat) (hI : z_I zd ad) (hI2 : z_I zd ad2) (hq : zSep sf ad ad2) (hA2 : ∀ q, zA2 ad ad2 q → s.heap.size ≤ q ∧ q < mo) (hIr : z_I yd ar) (hrb : ∀ i, yd.1 i < 200 → mo < ar i ∧ ar i < ob) (hmo : s.heap.size ≤ mo) (hob : mo < ob)
    (H : Heap) (locs : List Loc) (ls : Array Slot) (hl : lv_has ls 9 [(4, .int 0), (3, .ref ob), (2, .ref mo), (1, .ref sf), (0, .ref b)]) (hT : zT dC dI ca sf (ad 0) (ad2 0) H) (hC1 : zW dC dI ca ad zMi H) (hC2 : zW dC dI ca ad2 zMi H) (hMo : yMo dC dI mo 0 (ar 0) 0 H) (hR : yW dC dI ca ar (yM 0) H) (hO : yO dC dI ca ob (fun _ => 0) H) (hS : va_S (fun q => s.heap.size ≤ q) s.heap H locs)
    (hJ : ∀ (H : Heap) (locs : List Loc) (ls : Array Slot), lv_has ls 9 [(4, .int 0), (3, .ref ob), (2, .ref mo), (1, .ref sf), (0, .ref b)] → va_S (fun q => s.heap.size ≤ q) s.heap H locs → W p l e room_1 s m #[Value.ref b] below meth c H locs 656031 7134144 Q (F0 m 1716 ls [])) : W p l e room_1 s m #[Value.ref b] below meth c H locs 146 780 Q (F0 m 1276 ls []) := by
  have hbA : ¬ (fun q => s.heap.size ≤ q) b := Nat.not_le.mpr hbl
  have hK5 : va_K (dC, dI) vwCl (zt ca) s := va_K.sub hK [0, 1, 2, 3, 4] rfl
  have hK9 : va_K (dC, dI) vwCl (yt ca) s := va_K.sub hK [0, 5] rfl
  have hmr : ∀ i, yd.1 i < 200 → ar i ≠ mo := fun i hi => by have h1 := hrb i hi; omega
  have hob2 : ¬ zA2 ad ad2 ob := fun h => by have h1 := hA2 _ h; omega
  have hAz : ∀ q, zA2 ad ad2 q → (fun q => s.heap.size ≤ q) q := fun q h => (hA2 q h).1
  have hAo : ∀ q, zAo ad ad2 ob q → (fun q => s.heap.size ≤ q) q := by
    rintro q (h | h)
    · exact (hA2 q h).1
    · rw [h]; show s.heap.size ≤ ob; omega
  have hmoA : ¬ zAo ad ad2 ob mo := by
    rintro (h | h)
    · have h1 := hA2 _ h; omega
    · omega
  have hrA : ∀ i, yd.1 i < 200 → ¬ zAo ad ad2 ob (ar i) := fun i hi => by
    have h2 := hrb i hi
    rintro (h | h)
    · have h1 := hA2 _ h; omega
    · omega
  by_cases h : z_rg (xs 1) 0 6
  · refine lv_aload_n hx hb dL_law_1276 rfl (lv_at hl 3 rfl) ?_
    refine lv_aload_n hx hb dL_law_1277 rfl (lv_at hl 4 rfl) ?_
    refine lv_iload hx hb dL_law_1278 (lv_at hl 0 rfl) ?_
    refine lv_iconst (v := 1) hx hb dL_law_1280 (by decide) ?_
    refine lv_iadd hx hb dL_law_1281 ?_
    refine y_num (b := 1) (by decide) ?_
    refine va_sld hx hb hX hbl hbA hS (show vp_in 1 6 from zx (n := 1) rfl (by decide) (by decide)) dL_law_1282 ?_
    refine y_num (b := (xs 1)) (show xs 1 = (xs 1) from rfl) ?_
    refine lv_aload_n hx hb dL_law_1283 rfl (lv_at hl 1 rfl) ?_
    refine z_cW (D := (dC, dI)) (cl := vwCl) (tys := lt9 ca) (nw := zw_nest) (av := [.ref sf, .int (xs 1), .ref ob]) (rest := []) ⟨hx, hb, hml, hown, hts⟩ (m_L_massy l dC dI ca sf ad hI ad2 hI2 hq ob hob2 (fun _ => 0) zMi zMi (xs 1) zOkMi h) (vx_cwSW 3 hts gL_law_L_mass rfl rfl rfl (by decide +kernel) ⟨Nat.le_of_ble_eq_true rfl, Nat.le_of_ble_eq_true rfl⟩) ⟨⟨hT, hC1, hC2⟩, hO⟩ hK hN zw_nest_ok rfl hl.1 rfl (Nat.le_of_ble_eq_true rfl) dL_law_1284 ⟨(by show 146 + 0 ≤ 656031; omega), (by show 780 + 0 ≤ 7134144; omega)⟩ hS hAo (fun H locs hB1 oq1 hz1 hS => ?_)
    have hO := hB1
    rw [vX_mass h] at hO
    have hMo := va_at.kept hMo (oq1 _ (va_at.lt hMo) hmoA)
    have hR := hR.kept (fun i hi => oq1 _ (hR.lt hi) (hrA i hi))
    refine lv_istore (lv' := [(5, .int 0), (4, .int 0), (3, .ref ob), (2, .ref mo), (1, .ref sf), (0, .ref b)]) hx hb dL_law_1287 hl (by decide) rfl (fun ls hl => ?_)
    refine lv_aload_n hx hb dL_law_1289 rfl (lv_at hl 3 rfl) ?_
    refine lv_aload_n hx hb dL_law_1290 rfl (lv_at hl 5 rfl) ?_
    refine lv_iload hx hb dL_law_1291 (lv_at hl 1 rfl) ?_
    refine lv_iconst (v := 1) hx hb dL_law_1293 (by decide) ?_
    refine lv_iadd hx hb dL_law_1294 ?_
    refine y_num (b := 1) (by decide) ?_
    refine va_sld hx hb hX hbl hbA hS (show vp_in 1 6 from zx (n := 1) rfl (by decide) (by decide)) dL_law_1295 ?_
    refine y_num (b := (xs 1)) (show xs 1 = (xs 1) from rfl) ?_
    refine y_cVi (D := (dC, dI)) (cl := vwCl) (tys := yt ca) (nw := zw_nest) (C := RX10) (As := [.int (xs 1)]) (rest := []) ⟨hx, hb, hml, hown, hts⟩ (m_X10_massy l dC dI ca mo _ ar hIr hmr 0 0 (xs 1) h) (cwV 1 hts gL_law_X10_mass rfl rfl rfl (by decide +kernel) ⟨Nat.le_of_ble_eq_true rfl, Nat.le_of_ble_eq_true rfl⟩) (va_recv hK9 (y_one hMo) (ci := 10) rfl (q0 := 0) rfl) ⟨rfl, hMo, hR⟩ hK9 hN hAO zw_nest_ok rfl hl.1 rfl (Nat.le_of_ble_eq_true rfl) dL_law_1296 ⟨(by show 146 + 1 ≤ 656031; omega), (by show 780 + 7 ≤ 7134144; omega)⟩ hS (yA_law hmo (fun i hi => Nat.le_trans hmo (Nat.le_of_lt (hrb i hi).1)) hS.1) (fun H locs hB1 oq1 hz1 hS => ?_)
    have hO := va_at.kept hO (oq1 _ (va_at.lt hO) (yA_ob hob hrb (va_at.lt hO)))
    obtain ⟨hMo, hR⟩ := hB1
    refine lv_istore (lv' := [(6, .int 0), (5, .int 0), (4, .int 0), (3, .ref ob), (2, .ref mo), (1, .ref sf), (0, .ref b)]) hx hb dL_law_1299 hl (by decide) rfl (fun ls hl => ?_)
    refine lv_aload_n hx hb dL_law_1301 rfl (lv_at hl 4 rfl) ?_
    refine y_cVi (D := (dC, dI)) (cl := vwCl) (tys := yt ca) (nw := zw_nest) (C := RX10) (As := []) (rest := []) ⟨hx, hb, hml, hown, hts⟩ (m_X10_thrown0 l dC dI ca mo (ar 0) 0 0) (cwV 0 hts gL_law_X10_thrown rfl rfl rfl (by decide +kernel) ⟨Nat.le_of_ble_eq_true rfl, Nat.le_of_ble_eq_true rfl⟩) (va_recv hK9 (y_one hMo) (ci := 10) rfl (q0 := 0) rfl) hMo hK9 hN hAO zw_nest_ok rfl hl.1 rfl (Nat.le_of_ble_eq_true rfl) dL_law_1302 ⟨(by show 147 + 0 ≤ 656031; omega), (by show 787 + 0 ≤ 7134144; omega)⟩ hS (fun _ h => h.elim) (fun H locs hB1 oq1 hz1 hS => ?_)
    have hO := va_at.kept hO (oq1 _ (va_at.lt hO) (fun h => h))
    refine lv_iload hx hb dL_law_1305 (lv_at hl 1 rfl) ?_
    refine lv_icmp_eq (tgt := 1312) hx hb dL_law_1307 (by decide) (fun _ => ?_) (fun c9 => absurd rfl c9)
    refine lv_iload hx hb dL_law_1312 (lv_at hl 1 rfl) ?_
    refine lv_if_ne (tgt := 1329) hx hb dL_law_1314 (by decide) (fun c9 => absurd c9 (by decide)) (fun _ => ?_)
    refine lv_aload_n hx hb dL_law_1317 rfl (lv_at hl 3 rfl) ?_
    refine lv_iconst (v := 0) hx hb dL_law_1318 (by decide) ?_
    refine va_lald hx hb hK (y_one hO) 0 6 rfl rfl (zx (n := 0) (N := 1) (x := 0) rfl (by decide) (by decide)) dL_law_1319 ?_
    refine y_lng (b := (0 : Int32).toInt64) rfl ?_
    refine lv_iload hx hb dL_law_1320 (lv_at hl 0 rfl) ?_
    refine lv_i2l hx hb dL_law_1322 rfl ?_
    refine W.lcmp hx hb dL_law_1323 ?_
    refine y_num (b := 0) (lg_self _) ?_
    refine lv_if_eq (tgt := 1329) hx hb dL_law_1324 (by decide) (fun _ => ?_) (fun c9 => absurd rfl c9)
    refine lv_goto (tgt := 1716) hx hb dL_law_1329 (by decide) ?_
    refine W.widen (k := 656031) (n := 7134144) (by show 147 ≤ 656031; omega) (by show 787 ≤ 7134144; omega) ?_
    exact hJ _ _ _ (lv_sub hl [2, 3, 4, 5, 6] rfl) hS
  · skip
    refine lv_aload_n hx hb dL_law_1276 rfl (lv_at hl 3 rfl) ?_
    refine lv_aload_n hx hb dL_law_1277 rfl (lv_at hl 4 rfl) ?_
    refine lv_iload hx hb dL_law_1278 (lv_at hl 0 rfl) ?_
    refine lv_iconst (v := 1) hx hb dL_law_1280 (by decide) ?_
    refine lv_iadd hx hb dL_law_1281 ?_
    refine y_num (b := 1) (by decide) ?_
    refine va_sld hx hb hX hbl hbA hS (show vp_in 1 6 from zx (n := 1) rfl (by decide) (by decide)) dL_law_1282 ?_
    refine y_num (b := (xs 1)) (show xs 1 = (xs 1) from rfl) ?_
    refine lv_aload_n hx hb dL_law_1283 rfl (lv_at hl 1 rfl) ?_
    refine z_cWx (D := (dC, dI)) (cl := vwCl) (tys := lt9 ca) (nw := zw_nest) (av := [.ref sf, .int (xs 1), .ref ob]) (rest := []) ⟨hx, hb, hml, hown, hts⟩ (m_L_massx l hl9 dC dI ca sf ad ad2 ob zMi zMi (xs 1) h) (vx_cwSW 3 hts gL_law_L_mass rfl rfl rfl (by decide +kernel) ⟨Nat.le_of_ble_eq_true rfl, Nat.le_of_ble_eq_true rfl⟩) ⟨hT, hC1, hC2⟩ hK hN hEx zw_nest_ok rfl hl.1 rfl (Nat.le_of_ble_eq_true rfl) dL_law_1284 ⟨(by show 146 + 1 ≤ 656031; omega), (by show 780 + 6 ≤ 7134144; omega)⟩ hS (fun H locs oq1 hz1 hS => ?_)
    have hMo := va_at.kept hMo (oq1 _ (va_at.lt hMo))
    have hR := hR.kept (fun i hi => oq1 _ (hR.lt hi))
    have hO := va_at.kept hO (oq1 _ (va_at.lt hO))
    refine lv_istore (lv' := [(5, .int 1), (4, .int 0), (3, .ref ob), (2, .ref mo), (1, .ref sf), (0, .ref b)]) hx hb dL_law_1287 hl (by decide) rfl (fun ls hl => ?_)
    refine lv_aload_n hx hb dL_law_1289 rfl (lv_at hl 3 rfl) ?_
    refine lv_aload_n hx hb dL_law_1290 rfl (lv_at hl 5 rfl) ?_
    refine lv_iload hx hb dL_law_1291 (lv_at hl 1 rfl) ?_
    refine lv_iconst (v := 1) hx hb dL_law_1293 (by decide) ?_
    refine lv_iadd hx hb dL_law_1294 ?_
    refine y_num (b := 1) (by decide) ?_
    refine va_sld hx hb hX hbl hbA hS (show vp_in 1 6 from zx (n := 1) rfl (by decide) (by decide)) dL_law_1295 ?_
    refine y_num (b := (xs 1)) (show xs 1 = (xs 1) from rfl) ?_
    refine y_cVi (D := (dC, dI)) (cl := vwCl) (tys := yt ca) (nw := zw_nest) (C := RX10) (As := [.int (xs 1)]) (rest := []) ⟨hx, hb, hml, hown, hts⟩ (m_X10_massn l dC dI ca mo _ ar hIr hmr 0 0 (xs 1) h) (cwV 1 hts gL_law_X10_mass rfl rfl rfl (by decide +kernel) ⟨Nat.le_of_ble_eq_true rfl, Nat.le_of_ble_eq_true rfl⟩) (va_recv hK9 (y_one hMo) (ci := 10) rfl (q0 := 0) rfl) ⟨rfl, hMo, hR⟩ hK9 hN hAO zw_nest_ok rfl hl.1 rfl (Nat.le_of_ble_eq_true rfl) dL_law_1296 ⟨(by show 147 + 0 ≤ 656031; omega), (by show 786 + 0 ≤ 7134144; omega)⟩ hS (yA_law hmo (fun i hi => Nat.le_trans hmo (Nat.le_of_lt (hrb i hi).1)) hS.1) (fun H locs hB1 oq1 hz1 hS => ?_)
    have hO := va_at.kept hO (oq1 _ (va_at.lt hO) (yA_ob hob hrb (va_at.lt hO)))
    obtain ⟨hMo, hR⟩ := hB1
    refine lv_istore (lv' := [(6, .int 0), (5, .int 1), (4, .int 0), (3, .ref ob), (2, .ref mo), (1, .ref sf), (0, .ref b)]) hx hb dL_law_1299 hl (by decide) rfl (fun ls hl => ?_)
    refine lv_aload_n hx hb dL_law_1301 rfl (lv_at hl 4 rfl) ?_
    refine y_cVi (D := (dC, dI)) (cl := vwCl) (tys := yt ca) (nw := zw_nest) (C := RX10) (As := []) (rest := []) ⟨hx, hb, hml, hown, hts⟩ (m_X10_thrown0 l dC dI ca mo (ar 0) 1 0) (cwV 0 hts gL_law_X10_thrown rfl rfl rfl (by decide +kernel) ⟨Nat.le_of_ble_eq_true rfl, Nat.le_of_ble_eq_true rfl⟩) (va_recv hK9 (y_one hMo) (ci := 10) rfl (q0 := 0) rfl) hMo hK9 hN hAO zw_nest_ok rfl hl.1 rfl (Nat.le_of_ble_eq_true rfl) dL_law_1302 ⟨(by show 147 + 0 ≤ 656031; omega), (by show 786 + 0 ≤ 7134144; omega)⟩ hS (fun _ h => h.elim) (fun H locs hB1 oq1 hz1 hS => ?_)
    have hO := va_at.kept hO (oq1 _ (va_at.lt hO) (fun h => h))
    refine lv_iload hx hb dL_law_1305 (lv_at hl 1 rfl) ?_
    refine lv_icmp_eq (tgt := 1312) hx hb dL_law_1307 (by decide) (fun _ => ?_) (fun c9 => absurd rfl c9)
    refine lv_iload hx hb dL_law_1312 (lv_at hl 1 rfl) ?_
    refine lv_if_ne (tgt := 1329) hx hb dL_law_1314 (by decide) (fun _ => ?_) (fun c9 => absurd c9 (by decide))
    refine lv_goto (tgt := 1716) hx hb dL_law_1329 (by decide) ?_
    refine W.widen (k := 656031) (n := 7134144) (by show 147 ≤ 656031; omega) (by show 786 ≤ 7134144; omega) ?_
    exact hJ _ _ _ (lv_sub hl [2, 3, 4, 5, 6] rfl) hS
