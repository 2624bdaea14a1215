set_option maxHeartbeats 4000000 in
set_option maxRecDepth 100000 in
theorem m_X10_digest (l : Launch) (dC : Nat → ClassId) (dI : Nat → Nat → Nat) (ca : Nat → ClassId) (mo sz : Nat) (ad : Nat → Nat) (hI : z_I yd ad) (hm : ∀ i, yd.1 i < 200 → ad i ≠ mo) (th : Int32) (sm : Int64) : Met l yX10_digest wsX10_digest ({ frames := 6, cells := 724, slots := 4585, locals := 145 }) (z_Py (dC, dI) vwCl (yt ca) zw_nest [.ref mo] (fun H => H.size = sz ∧ yMo dC dI mo th (ad 0) sm H ∧ yW dC dI ca ad (yM 0) H)) (z_Ql (-8640506924048327797) (fun H => yMo dC dI mo 0 (ad 0) (-8640506924048327797) H ∧ yW dC dI ca ad (yM 0) H) (yA mo ad sz)) 724 4585 (yA mo ad sz) := by
  refine Met.ofW (cc := cX10_digest) (maxL := 3) (ret := (some .long)) (by decide) rfl ?_
  intro p e s m args below meth c s₁ B9 hml hv
  obtain ⟨rfl, ⟨hz, hMo, hH⟩, hK, hN, hX⟩ := hv
  have hx := B9.exec
  have hb := B9.bytes
  have hr := B9.returns
  have hts := atoms_spec (ws := wsX10_digest) B9.pre
  have hown : s.vm.findClass RX10 = some m.cls := findClass_of_methodNamed B9.named
  have hlocks := B9.notSynchronized
  have hS : va_S (yA mo ad sz) s.heap s.heap [] := va_S.rf
  have hba : ∀ i, yd.1 i < 200 → ad i < sz := fun i hi => by have b0 := hH.lt hi; omega
  have hbm : mo < sz := by have b0 := va_at.lt hMo; exact hz ▸ b0
  have hAs : ∀ q, s.heap.size ≤ q → (yA mo ad sz) q := fun q h => Or.inr (Or.inr (hz ▸ h))
  have hinX10 : ∀ w ∈ u_ws RX10 TX10 3, w ∈ wsX10_digest := by decide +kernel
  have hinX9 : ∀ w ∈ u_ws RX9 TX9 24, w ∈ wsX10_digest := by decide +kernel
  have hl := lv_entry ([.ref mo]) (n := 3) (Nat.le_of_ble_eq_true rfl)
  rw [lg_entry_eq]
  generalize (lg_sl ([.ref mo]) ++ List.replicate (3 - (lg_sl ([.ref mo])).length) Slot.unset).toArray = ls at hl ⊢
  have hl : lv_has ls 3 [(0, .ref mo)] := hl
  refine lv_aload_n hx hb dX10_digest_0 rfl (lv_at hl 0 rfl) ?_
  refine lv_iconst (v := 0) hx hb dX10_digest_1 (by decide) ?_
  refine yo_put (D := (dC, dI)) (cl := vwCl) (C := RX10) (T := TX10) (N := 3) (ci := 10) (ty := .int) hx hb hts hinX10 tyX10 tyX10_ok nmX10 hown hK hMo hS (Or.inl rfl) rfl 0 (by decide) (hts (.fieldLink RX10 16 "SteamfieldModel" "thrown" "I") (by decide +kernel)) (fun _ h9 => h9) rfl (by decide +kernel) rfl rfl (show 0 < 3 by decide) dX10_digest_2 (fun H locs hMo z9 oq hS => ?_)
  have hMo : yMo dC dI mo 0 (ad 0) sm H := hMo
  have hH := hH.kept (fun i hi => oq _ (hm i hi))
  refine lv_aload_n hx hb dX10_digest_5 rfl (lv_at hl 0 rfl) ?_
  refine lv_ldc2 (v := 58177) hx hb hown (hts (.constantLong RX10 178 58177) (by decide +kernel)) dX10_digest_6 ?_
  refine yo_put (D := (dC, dI)) (cl := vwCl) (C := RX10) (T := TX10) (N := 3) (ci := 10) (ty := .long) hx hb hts hinX10 tyX10 tyX10_ok nmX10 hown hK hMo hS (Or.inl rfl) rfl 2 (by decide) (hts (.fieldLink RX10 173 "SteamfieldModel" "sum" "J") (by decide +kernel)) (fun _ h9 => h9) rfl (by decide +kernel) rfl rfl (show 2 < 3 by decide) dX10_digest_9 (fun H locs hMo z9 oq hS => ?_)
  have hMo : yMo dC dI mo 0 (ad 0) 58177 H := hMo
  have hH := hH.kept (fun i hi => oq _ (hm i hi))
  refine lv_iconst (v := 0) hx hb dX10_digest_12 (by decide) ?_
  refine lv_istore_n (lv' := [(1, .int 0), (0, .ref mo)]) hx hb dX10_digest_13 rfl hl (by decide) rfl (fun ls hl => ?_)
  refine lv_iload_n hx hb dX10_digest_14 rfl (lv_at hl 0 rfl) ?_
  refine lv_bipush (v := 13) hx hb dX10_digest_15 (by decide) ?_
  refine lv_icmp_ge (tgt := 35) hx hb dX10_digest_17 (by decide) (fun c9 => absurd c9 (by decide)) (fun _ => ?_)
  refine lv_aload_n hx hb dX10_digest_20 rfl (lv_at hl 1 rfl) ?_
  refine lv_aload_n hx hb dX10_digest_21 rfl (lv_at hl 1 rfl) ?_
  refine lv_iload_n hx hb dX10_digest_22 rfl (lv_at hl 0 rfl) ?_
  refine y_cVi (D := (dC, dI)) (cl := vwCl) (tys := yt ca) (nw := zw_nest) (C := RX10) (As := [.int 0]) (rest := [.ref mo]) ⟨hx, hb, hml, hown, hts⟩ (m_X10_manyNow l dC dI ca mo H.size ad hI hm 0 58177 0 ⟨by decide, by decide⟩) (cwV 1 hts gX10_digest_X10_manyNow rfl rfl rfl (by decide +kernel) ⟨Nat.le_of_ble_eq_true rfl, Nat.le_of_ble_eq_true rfl⟩) (va_recv hK (y_one hMo) (ci := 10) rfl (q0 := 0) rfl) ⟨rfl, hMo, hH⟩ hK hN hX zw_nest_ok rfl hl.1 rfl (Nat.le_of_ble_eq_true rfl) dX10_digest_23 ⟨Nat.le_of_ble_eq_true rfl, Nat.le_of_ble_eq_true rfl⟩ hS (yA_mono (by have b0 := hS.1; omega)) (fun H locs hB1 oq1 hz1 hS => ?_)
  obtain ⟨hMo, hH⟩ := hB1
  refine y_num (b := 0) (by decide) ?_
  refine y_cVv (D := (dC, dI)) (cl := vwCl) (tys := yt ca) (nw := zw_nest) (C := RX10) (As := [.int 0]) (rest := []) ⟨hx, hb, hml, hown, hts⟩ (m_X10_add l dC dI ca mo H.size ad hI hm 0 58177 0 ) (cwV 1 hts gX10_digest_X10_add rfl rfl rfl (by decide +kernel) ⟨Nat.le_of_ble_eq_true rfl, Nat.le_of_ble_eq_true rfl⟩) (va_recv hK (y_one hMo) (ci := 10) rfl (q0 := 0) rfl) ⟨rfl, hMo, hH⟩ hK hN hX zw_nest_ok rfl hl.1 rfl (Nat.le_of_ble_eq_true rfl) dX10_digest_26 ⟨Nat.le_of_ble_eq_true rfl, Nat.le_of_ble_eq_true rfl⟩ hS (yA_mono (by have b0 := hS.1; omega)) (fun H locs hB1 oq1 hz1 hS => ?_)
  obtain ⟨hMo, hH⟩ := hB1
  rw [show (58177 * 31 + (0 : Int32).toInt64 : Int64) = 1803487 by decide +kernel] at hMo
  refine lv_iinc (v := 1) (lv' := [(1, .int 1), (0, .ref mo)]) hx hb dX10_digest_29 hl (k := 0) rfl (by decide) (by decide) rfl (fun ls hl => ?_)
  refine lv_goto (tgt := 14) hx hb dX10_digest_32 (by decide) ?_
  refine lv_iload_n hx hb dX10_digest_14 rfl (lv_at hl 0 rfl) ?_
  refine lv_bipush (v := 13) hx hb dX10_digest_15 (by decide) ?_
  refine lv_icmp_ge (tgt := 35) hx hb dX10_digest_17 (by decide) (fun c9 => absurd c9 (by decide)) (fun _ => ?_)
  refine lv_aload_n hx hb dX10_digest_20 rfl (lv_at hl 1 rfl) ?_
  refine lv_aload_n hx hb dX10_digest_21 rfl (lv_at hl 1 rfl) ?_
  refine lv_iload_n hx hb dX10_digest_22 rfl (lv_at hl 0 rfl) ?_
  refine y_cVi (D := (dC, dI)) (cl := vwCl) (tys := yt ca) (nw := zw_nest) (C := RX10) (As := [.int 1]) (rest := [.ref mo]) ⟨hx, hb, hml, hown, hts⟩ (m_X10_manyNow l dC dI ca mo H.size ad hI hm 0 1803487 1 ⟨by decide, by decide⟩) (cwV 1 hts gX10_digest_X10_manyNow rfl rfl rfl (by decide +kernel) ⟨Nat.le_of_ble_eq_true rfl, Nat.le_of_ble_eq_true rfl⟩) (va_recv hK (y_one hMo) (ci := 10) rfl (q0 := 0) rfl) ⟨rfl, hMo, hH⟩ hK hN hX zw_nest_ok rfl hl.1 rfl (Nat.le_of_ble_eq_true rfl) dX10_digest_23 ⟨Nat.le_of_ble_eq_true rfl, Nat.le_of_ble_eq_true rfl⟩ hS (yA_mono (by have b0 := hS.1; omega)) (fun H locs hB1 oq1 hz1 hS => ?_)
  obtain ⟨hMo, hH⟩ := hB1
  refine y_num (b := 0) (by decide) ?_
  refine y_cVv (D := (dC, dI)) (cl := vwCl) (tys := yt ca) (nw := zw_nest) (C := RX10) (As := [.int 0]) (rest := []) ⟨hx, hb, hml, hown, hts⟩ (m_X10_add l dC dI ca mo H.size ad hI hm 0 1803487 0 ) (cwV 1 hts gX10_digest_X10_add rfl rfl rfl (by decide +kernel) ⟨Nat.le_of_ble_eq_true rfl, Nat.le_of_ble_eq_true rfl⟩) (va_recv hK (y_one hMo) (ci := 10) rfl (q0 := 0) rfl) ⟨rfl, hMo, hH⟩ hK hN hX zw_nest_ok rfl hl.1 rfl (Nat.le_of_ble_eq_true rfl) dX10_digest_26 ⟨Nat.le_of_ble_eq_true rfl, Nat.le_of_ble_eq_true rfl⟩ hS (yA_mono (by have b0 := hS.1; omega)) (fun H locs hB1 oq1 hz1 hS => ?_)
  obtain ⟨hMo, hH⟩ := hB1
  rw [show (1803487 * 31 + (0 : Int32).toInt64 : Int64) = 55908097 by decide +kernel] at hMo
  refine lv_iinc (v := 2) (lv' := [(1, .int 2), (0, .ref mo)]) hx hb dX10_digest_29 hl (k := 0) rfl (by decide) (by decide) rfl (fun ls hl => ?_)
  refine lv_goto (tgt := 14) hx hb dX10_digest_32 (by decide) ?_
  refine lv_iload_n hx hb dX10_digest_14 rfl (lv_at hl 0 rfl) ?_
  refine lv_bipush (v := 13) hx hb dX10_digest_15 (by decide) ?_
  refine lv_icmp_ge (tgt := 35) hx hb dX10_digest_17 (by decide) (fun c9 => absurd c9 (by decide)) (fun _ => ?_)
  refine lv_aload_n hx hb dX10_digest_20 rfl (lv_at hl 1 rfl) ?_
  refine lv_aload_n hx hb dX10_digest_21 rfl (lv_at hl 1 rfl) ?_
  refine lv_iload_n hx hb dX10_digest_22 rfl (lv_at hl 0 rfl) ?_
  refine y_cVi (D := (dC, dI)) (cl := vwCl) (tys := yt ca) (nw := zw_nest) (C := RX10) (As := [.int 2]) (rest := [.ref mo]) ⟨hx, hb, hml, hown, hts⟩ (m_X10_manyNow l dC dI ca mo H.size ad hI hm 0 55908097 2 ⟨by decide, by decide⟩) (cwV 1 hts gX10_digest_X10_manyNow rfl rfl rfl (by decide +kernel) ⟨Nat.le_of_ble_eq_true rfl, Nat.le_of_ble_eq_true rfl⟩) (va_recv hK (y_one hMo) (ci := 10) rfl (q0 := 0) rfl) ⟨rfl, hMo, hH⟩ hK hN hX zw_nest_ok rfl hl.1 rfl (Nat.le_of_ble_eq_true rfl) dX10_digest_23 ⟨Nat.le_of_ble_eq_true rfl, Nat.le_of_ble_eq_true rfl⟩ hS (yA_mono (by have b0 := hS.1; omega)) (fun H locs hB1 oq1 hz1 hS => ?_)
  obtain ⟨hMo, hH⟩ := hB1
  refine y_num (b := 0) (by decide) ?_
  refine y_cVv (D := (dC, dI)) (cl := vwCl) (tys := yt ca) (nw := zw_nest) (C := RX10) (As := [.int 0]) (rest := []) ⟨hx, hb, hml, hown, hts⟩ (m_X10_add l dC dI ca mo H.size ad hI hm 0 55908097 0 ) (cwV 1 hts gX10_digest_X10_add rfl rfl rfl (by decide +kernel) ⟨Nat.le_of_ble_eq_true rfl, Nat.le_of_ble_eq_true rfl⟩) (va_recv hK (y_one hMo) (ci := 10) rfl (q0 := 0) rfl) ⟨rfl, hMo, hH⟩ hK hN hX zw_nest_ok rfl hl.1 rfl (Nat.le_of_ble_eq_true rfl) dX10_digest_26 ⟨Nat.le_of_ble_eq_true rfl, Nat.le_of_ble_eq_true rfl⟩ hS (yA_mono (by have b0 := hS.1; omega)) (fun H locs hB1 oq1 hz1 hS => ?_)
  obtain ⟨hMo, hH⟩ := hB1
  rw [show (55908097 * 31 + (0 : Int32).toInt64 : Int64) = 1733151007 by decide +kernel] at hMo
  refine lv_iinc (v := 3) (lv' := [(1, .int 3), (0, .ref mo)]) hx hb dX10_digest_29 hl (k := 0) rfl (by decide) (by decide) rfl (fun ls hl => ?_)
  refine lv_goto (tgt := 14) hx hb dX10_digest_32 (by decide) ?_
  refine lv_iload_n hx hb dX10_digest_14 rfl (lv_at hl 0 rfl) ?_
  refine lv_bipush (v := 13) hx hb dX10_digest_15 (by decide) ?_
  refine lv_icmp_ge (tgt := 35) hx hb dX10_digest_17 (by decide) (fun c9 => absurd c9 (by decide)) (fun _ => ?_)
  refine lv_aload_n hx hb dX10_digest_20 rfl (lv_at hl 1 rfl) ?_
  refine lv_aload_n hx hb dX10_digest_21 rfl (lv_at hl 1 rfl) ?_
  refine lv_iload_n hx hb dX10_digest_22 rfl (lv_at hl 0 rfl) ?_
  refine y_cVi (D := (dC, dI)) (cl := vwCl) (tys := yt ca) (nw := zw_nest) (C := RX10) (As := [.int 3]) (rest := [.ref mo]) ⟨hx, hb, hml, hown, hts⟩ (m_X10_manyNow l dC dI ca mo H.size ad hI hm 0 1733151007 3 ⟨by decide, by decide⟩) (cwV 1 hts gX10_digest_X10_manyNow rfl rfl rfl (by decide +kernel) ⟨Nat.le_of_ble_eq_true rfl, Nat.le_of_ble_eq_true rfl⟩) (va_recv hK (y_one hMo) (ci := 10) rfl (q0 := 0) rfl) ⟨rfl, hMo, hH⟩ hK hN hX zw_nest_ok rfl hl.1 rfl (Nat.le_of_ble_eq_true rfl) dX10_digest_23 ⟨Nat.le_of_ble_eq_true rfl, Nat.le_of_ble_eq_true rfl⟩ hS (yA_mono (by have b0 := hS.1; omega)) (fun H locs hB1 oq1 hz1 hS => ?_)
  obtain ⟨hMo, hH⟩ := hB1
  refine y_num (b := 0) (by decide) ?_
  refine y_cVv (D := (dC, dI)) (cl := vwCl) (tys := yt ca) (nw := zw_nest) (C := RX10) (As := [.int 0]) (rest := []) ⟨hx, hb, hml, hown, hts⟩ (m_X10_add l dC dI ca mo H.size ad hI hm 0 1733151007 0 ) (cwV 1 hts gX10_digest_X10_add rfl rfl rfl (by decide +kernel) ⟨Nat.le_of_ble_eq_true rfl, Nat.le_of_ble_eq_true rfl⟩) (va_recv hK (y_one hMo) (ci := 10) rfl (q0 := 0) rfl) ⟨rfl, hMo, hH⟩ hK hN hX zw_nest_ok rfl hl.1 rfl (Nat.le_of_ble_eq_true rfl) dX10_digest_26 ⟨Nat.le_of_ble_eq_true rfl, Nat.le_of_ble_eq_true rfl⟩ hS (yA_mono (by have b0 := hS.1; omega)) (fun H locs hB1 oq1 hz1 hS => ?_)
  obtain ⟨hMo, hH⟩ := hB1
  rw [show (1733151007 * 31 + (0 : Int32).toInt64 : Int64) = 53727681217 by decide +kernel] at hMo
  refine lv_iinc (v := 4) (lv' := [(1, .int 4), (0, .ref mo)]) hx hb dX10_digest_29 hl (k := 0) rfl (by decide) (by decide) rfl (fun ls hl => ?_)
  refine lv_goto (tgt := 14) hx hb dX10_digest_32 (by decide) ?_
  refine lv_iload_n hx hb dX10_digest_14 rfl (lv_at hl 0 rfl) ?_
  refine lv_bipush (v := 13) hx hb dX10_digest_15 (by decide) ?_
  refine lv_icmp_ge (tgt := 35) hx hb dX10_digest_17 (by decide) (fun c9 => absurd c9 (by decide)) (fun _ => ?_)
  refine lv_aload_n hx hb dX10_digest_20 rfl (lv_at hl 1 rfl) ?_
  refine lv_aload_n hx hb dX10_digest_21 rfl (lv_at hl 1 rfl) ?_
  refine lv_iload_n hx hb dX10_digest_22 rfl (lv_at hl 0 rfl) ?_
  refine y_cVi (D := (dC, dI)) (cl := vwCl) (tys := yt ca) (nw := zw_nest) (C := RX10) (As := [.int 4]) (rest := [.ref mo]) ⟨hx, hb, hml, hown, hts⟩ (m_X10_manyNow l dC dI ca mo H.size ad hI hm 0 53727681217 4 ⟨by decide, by decide⟩) (cwV 1 hts gX10_digest_X10_manyNow rfl rfl rfl (by decide +kernel) ⟨Nat.le_of_ble_eq_true rfl, Nat.le_of_ble_eq_true rfl⟩) (va_recv hK (y_one hMo) (ci := 10) rfl (q0 := 0) rfl) ⟨rfl, hMo, hH⟩ hK hN hX zw_nest_ok rfl hl.1 rfl (Nat.le_of_ble_eq_true rfl) dX10_digest_23 ⟨Nat.le_of_ble_eq_true rfl, Nat.le_of_ble_eq_true rfl⟩ hS (yA_mono (by have b0 := hS.1; omega)) (fun H locs hB1 oq1 hz1 hS => ?_)
  obtain ⟨hMo, hH⟩ := hB1
  refine y_num (b := 0) (by decide) ?_
  refine y_cVv (D := (dC, dI)) (cl := vwCl) (tys := yt ca) (nw := zw_nest) (C := RX10) (As := [.int 0]) (rest := []) ⟨hx, hb, hml, hown, hts⟩ (m_X10_add l dC dI ca mo H.size ad hI hm 0 53727681217 0 ) (cwV 1 hts gX10_digest_X10_add rfl rfl rfl (by decide +kernel) ⟨Nat.le_of_ble_eq_true rfl, Nat.le_of_ble_eq_true rfl⟩) (va_recv hK (y_one hMo) (ci := 10) rfl (q0 := 0) rfl) ⟨rfl, hMo, hH⟩ hK hN hX zw_nest_ok rfl hl.1 rfl (Nat.le_of_ble_eq_true rfl) dX10_digest_26 ⟨Nat.le_of_ble_eq_true rfl, Nat.le_of_ble_eq_true rfl⟩ hS (yA_mono (by have b0 := hS.1; omega)) (fun H locs hB1 oq1 hz1 hS => ?_)
  obtain ⟨hMo, hH⟩ := hB1
  rw [show (53727681217 * 31 + (0 : Int32).toInt64 : Int64) = 1665558117727 by decide +kernel] at hMo
  refine lv_iinc (v := 5) (lv' := [(1, .int 5), (0, .ref mo)]) hx hb dX10_digest_29 hl (k := 0) rfl (by decide) (by decide) rfl (fun ls hl => ?_)
  refine lv_goto (tgt := 14) hx hb dX10_digest_32 (by decide) ?_
  refine lv_iload_n hx hb dX10_digest_14 rfl (lv_at hl 0 rfl) ?_
  refine lv_bipush (v := 13) hx hb dX10_digest_15 (by decide) ?_
  refine lv_icmp_ge (tgt := 35) hx hb dX10_digest_17 (by decide) (fun c9 => absurd c9 (by decide)) (fun _ => ?_)
  refine lv_aload_n hx hb dX10_digest_20 rfl (lv_at hl 1 rfl) ?_
  refine lv_aload_n hx hb dX10_digest_21 rfl (lv_at hl 1 rfl) ?_
  refine lv_iload_n hx hb dX10_digest_22 rfl (lv_at hl 0 rfl) ?_
  refine y_cVi (D := (dC, dI)) (cl := vwCl) (tys := yt ca) (nw := zw_nest) (C := RX10) (As := [.int 5]) (rest := [.ref mo]) ⟨hx, hb, hml, hown, hts⟩ (m_X10_manyNow l dC dI ca mo H.size ad hI hm 0 1665558117727 5 ⟨by decide, by decide⟩) (cwV 1 hts gX10_digest_X10_manyNow rfl rfl rfl (by decide +kernel) ⟨Nat.le_of_ble_eq_true rfl, Nat.le_of_ble_eq_true rfl⟩) (va_recv hK (y_one hMo) (ci := 10) rfl (q0 := 0) rfl) ⟨rfl, hMo, hH⟩ hK hN hX zw_nest_ok rfl hl.1 rfl (Nat.le_of_ble_eq_true rfl) dX10_digest_23 ⟨Nat.le_of_ble_eq_true rfl, Nat.le_of_ble_eq_true rfl⟩ hS (yA_mono (by have b0 := hS.1; omega)) (fun H locs hB1 oq1 hz1 hS => ?_)
  obtain ⟨hMo, hH⟩ := hB1
  refine y_num (b := 0) (by decide) ?_
  refine y_cVv (D := (dC, dI)) (cl := vwCl) (tys := yt ca) (nw := zw_nest) (C := RX10) (As := [.int 0]) (rest := []) ⟨hx, hb, hml, hown, hts⟩ (m_X10_add l dC dI ca mo H.size ad hI hm 0 1665558117727 0 ) (cwV 1 hts gX10_digest_X10_add rfl rfl rfl (by decide +kernel) ⟨Nat.le_of_ble_eq_true rfl, Nat.le_of_ble_eq_true rfl⟩) (va_recv hK (y_one hMo) (ci := 10) rfl (q0 := 0) rfl) ⟨rfl, hMo, hH⟩ hK hN hX zw_nest_ok rfl hl.1 rfl (Nat.le_of_ble_eq_true rfl) dX10_digest_26 ⟨Nat.le_of_ble_eq_true rfl, Nat.le_of_ble_eq_true rfl⟩ hS (yA_mono (by have b0 := hS.1; omega)) (fun H locs hB1 oq1 hz1 hS => ?_)
  obtain ⟨hMo, hH⟩ := hB1
  rw [show (1665558117727 * 31 + (0 : Int32).toInt64 : Int64) = 51632301649537 by decide +kernel] at hMo
  refine lv_iinc (v := 6) (lv' := [(1, .int 6), (0, .ref mo)]) hx hb dX10_digest_29 hl (k := 0) rfl (by decide) (by decide) rfl (fun ls hl => ?_)
  refine lv_goto (tgt := 14) hx hb dX10_digest_32 (by decide) ?_
  refine lv_iload_n hx hb dX10_digest_14 rfl (lv_at hl 0 rfl) ?_
  refine lv_bipush (v := 13) hx hb dX10_digest_15 (by decide) ?_
  refine lv_icmp_ge (tgt := 35) hx hb dX10_digest_17 (by decide) (fun c9 => absurd c9 (by decide)) (fun _ => ?_)
  refine lv_aload_n hx hb dX10_digest_20 rfl (lv_at hl 1 rfl) ?_
  refine lv_aload_n hx hb dX10_digest_21 rfl (lv_at hl 1 rfl) ?_
  refine lv_iload_n hx hb dX10_digest_22 rfl (lv_at hl 0 rfl) ?_
  refine y_cVi (D := (dC, dI)) (cl := vwCl) (tys := yt ca) (nw := zw_nest) (C := RX10) (As := [.int 6]) (rest := [.ref mo]) ⟨hx, hb, hml, hown, hts⟩ (m_X10_manyNow l dC dI ca mo H.size ad hI hm 0 51632301649537 6 ⟨by decide, by decide⟩) (cwV 1 hts gX10_digest_X10_manyNow rfl rfl rfl (by decide +kernel) ⟨Nat.le_of_ble_eq_true rfl, Nat.le_of_ble_eq_true rfl⟩) (va_recv hK (y_one hMo) (ci := 10) rfl (q0 := 0) rfl) ⟨rfl, hMo, hH⟩ hK hN hX zw_nest_ok rfl hl.1 rfl (Nat.le_of_ble_eq_true rfl) dX10_digest_23 ⟨Nat.le_of_ble_eq_true rfl, Nat.le_of_ble_eq_true rfl⟩ hS (yA_mono (by have b0 := hS.1; omega)) (fun H locs hB1 oq1 hz1 hS => ?_)
  obtain ⟨hMo, hH⟩ := hB1
  refine y_num (b := 0) (by decide) ?_
  refine y_cVv (D := (dC, dI)) (cl := vwCl) (tys := yt ca) (nw := zw_nest) (C := RX10) (As := [.int 0]) (rest := []) ⟨hx, hb, hml, hown, hts⟩ (m_X10_add l dC dI ca mo H.size ad hI hm 0 51632301649537 0 ) (cwV 1 hts gX10_digest_X10_add rfl rfl rfl (by decide +kernel) ⟨Nat.le_of_ble_eq_true rfl, Nat.le_of_ble_eq_true rfl⟩) (va_recv hK (y_one hMo) (ci := 10) rfl (q0 := 0) rfl) ⟨rfl, hMo, hH⟩ hK hN hX zw_nest_ok rfl hl.1 rfl (Nat.le_of_ble_eq_true rfl) dX10_digest_26 ⟨Nat.le_of_ble_eq_true rfl, Nat.le_of_ble_eq_true rfl⟩ hS (yA_mono (by have b0 := hS.1; omega)) (fun H locs hB1 oq1 hz1 hS => ?_)
  obtain ⟨hMo, hH⟩ := hB1
  rw [show (51632301649537 * 31 + (0 : Int32).toInt64 : Int64) = 1600601351135647 by decide +kernel] at hMo
  refine lv_iinc (v := 7) (lv' := [(1, .int 7), (0, .ref mo)]) hx hb dX10_digest_29 hl (k := 0) rfl (by decide) (by decide) rfl (fun ls hl => ?_)
  refine lv_goto (tgt := 14) hx hb dX10_digest_32 (by decide) ?_
  refine lv_iload_n hx hb dX10_digest_14 rfl (lv_at hl 0 rfl) ?_
  refine lv_bipush (v := 13) hx hb dX10_digest_15 (by decide) ?_
  refine lv_icmp_ge (tgt := 35) hx hb dX10_digest_17 (by decide) (fun c9 => absurd c9 (by decide)) (fun _ => ?_)
  refine lv_aload_n hx hb dX10_digest_20 rfl (lv_at hl 1 rfl) ?_
  refine lv_aload_n hx hb dX10_digest_21 rfl (lv_at hl 1 rfl) ?_
  refine lv_iload_n hx hb dX10_digest_22 rfl (lv_at hl 0 rfl) ?_
  refine y_cVi (D := (dC, dI)) (cl := vwCl) (tys := yt ca) (nw := zw_nest) (C := RX10) (As := [.int 7]) (rest := [.ref mo]) ⟨hx, hb, hml, hown, hts⟩ (m_X10_manyNow l dC dI ca mo H.size ad hI hm 0 1600601351135647 7 ⟨by decide, by decide⟩) (cwV 1 hts gX10_digest_X10_manyNow rfl rfl rfl (by decide +kernel) ⟨Nat.le_of_ble_eq_true rfl, Nat.le_of_ble_eq_true rfl⟩) (va_recv hK (y_one hMo) (ci := 10) rfl (q0 := 0) rfl) ⟨rfl, hMo, hH⟩ hK hN hX zw_nest_ok rfl hl.1 rfl (Nat.le_of_ble_eq_true rfl) dX10_digest_23 ⟨Nat.le_of_ble_eq_true rfl, Nat.le_of_ble_eq_true rfl⟩ hS (yA_mono (by have b0 := hS.1; omega)) (fun H locs hB1 oq1 hz1 hS => ?_)
  obtain ⟨hMo, hH⟩ := hB1
  refine y_num (b := 1) (by decide) ?_
  refine y_cVv (D := (dC, dI)) (cl := vwCl) (tys := yt ca) (nw := zw_nest) (C := RX10) (As := [.int 1]) (rest := []) ⟨hx, hb, hml, hown, hts⟩ (m_X10_add l dC dI ca mo H.size ad hI hm 0 1600601351135647 1 ) (cwV 1 hts gX10_digest_X10_add rfl rfl rfl (by decide +kernel) ⟨Nat.le_of_ble_eq_true rfl, Nat.le_of_ble_eq_true rfl⟩) (va_recv hK (y_one hMo) (ci := 10) rfl (q0 := 0) rfl) ⟨rfl, hMo, hH⟩ hK hN hX zw_nest_ok rfl hl.1 rfl (Nat.le_of_ble_eq_true rfl) dX10_digest_26 ⟨Nat.le_of_ble_eq_true rfl, Nat.le_of_ble_eq_true rfl⟩ hS (yA_mono (by have b0 := hS.1; omega)) (fun H locs hB1 oq1 hz1 hS => ?_)
  obtain ⟨hMo, hH⟩ := hB1
  rw [show (1600601351135647 * 31 + (1 : Int32).toInt64 : Int64) = 49618641885205058 by decide +kernel] at hMo
  refine lv_iinc (v := 8) (lv' := [(1, .int 8), (0, .ref mo)]) hx hb dX10_digest_29 hl (k := 0) rfl (by decide) (by decide) rfl (fun ls hl => ?_)
  refine lv_goto (tgt := 14) hx hb dX10_digest_32 (by decide) ?_
  refine lv_iload_n hx hb dX10_digest_14 rfl (lv_at hl 0 rfl) ?_
  refine lv_bipush (v := 13) hx hb dX10_digest_15 (by decide) ?_
  refine lv_icmp_ge (tgt := 35) hx hb dX10_digest_17 (by decide) (fun c9 => absurd c9 (by decide)) (fun _ => ?_)
  refine lv_aload_n hx hb dX10_digest_20 rfl (lv_at hl 1 rfl) ?_
  refine lv_aload_n hx hb dX10_digest_21 rfl (lv_at hl 1 rfl) ?_
  refine lv_iload_n hx hb dX10_digest_22 rfl (lv_at hl 0 rfl) ?_
  refine y_cVi (D := (dC, dI)) (cl := vwCl) (tys := yt ca) (nw := zw_nest) (C := RX10) (As := [.int 8]) (rest := [.ref mo]) ⟨hx, hb, hml, hown, hts⟩ (m_X10_manyNow l dC dI ca mo H.size ad hI hm 0 49618641885205058 8 ⟨by decide, by decide⟩) (cwV 1 hts gX10_digest_X10_manyNow rfl rfl rfl (by decide +kernel) ⟨Nat.le_of_ble_eq_true rfl, Nat.le_of_ble_eq_true rfl⟩) (va_recv hK (y_one hMo) (ci := 10) rfl (q0 := 0) rfl) ⟨rfl, hMo, hH⟩ hK hN hX zw_nest_ok rfl hl.1 rfl (Nat.le_of_ble_eq_true rfl) dX10_digest_23 ⟨Nat.le_of_ble_eq_true rfl, Nat.le_of_ble_eq_true rfl⟩ hS (yA_mono (by have b0 := hS.1; omega)) (fun H locs hB1 oq1 hz1 hS => ?_)
  obtain ⟨hMo, hH⟩ := hB1
  refine y_num (b := 20) (by decide) ?_
  refine y_cVv (D := (dC, dI)) (cl := vwCl) (tys := yt ca) (nw := zw_nest) (C := RX10) (As := [.int 20]) (rest := []) ⟨hx, hb, hml, hown, hts⟩ (m_X10_add l dC dI ca mo H.size ad hI hm 0 49618641885205058 20 ) (cwV 1 hts gX10_digest_X10_add rfl rfl rfl (by decide +kernel) ⟨Nat.le_of_ble_eq_true rfl, Nat.le_of_ble_eq_true rfl⟩) (va_recv hK (y_one hMo) (ci := 10) rfl (q0 := 0) rfl) ⟨rfl, hMo, hH⟩ hK hN hX zw_nest_ok rfl hl.1 rfl (Nat.le_of_ble_eq_true rfl) dX10_digest_26 ⟨Nat.le_of_ble_eq_true rfl, Nat.le_of_ble_eq_true rfl⟩ hS (yA_mono (by have b0 := hS.1; omega)) (fun H locs hB1 oq1 hz1 hS => ?_)
  obtain ⟨hMo, hH⟩ := hB1
  rw [show (49618641885205058 * 31 + (20 : Int32).toInt64 : Int64) = 1538177898441356818 by decide +kernel] at hMo
  refine lv_iinc (v := 9) (lv' := [(1, .int 9), (0, .ref mo)]) hx hb dX10_digest_29 hl (k := 0) rfl (by decide) (by decide) rfl (fun ls hl => ?_)
  refine lv_goto (tgt := 14) hx hb dX10_digest_32 (by decide) ?_
  refine lv_iload_n hx hb dX10_digest_14 rfl (lv_at hl 0 rfl) ?_
  refine lv_bipush (v := 13) hx hb dX10_digest_15 (by decide) ?_
  refine lv_icmp_ge (tgt := 35) hx hb dX10_digest_17 (by decide) (fun c9 => absurd c9 (by decide)) (fun _ => ?_)
  refine lv_aload_n hx hb dX10_digest_20 rfl (lv_at hl 1 rfl) ?_
  refine lv_aload_n hx hb dX10_digest_21 rfl (lv_at hl 1 rfl) ?_
  refine lv_iload_n hx hb dX10_digest_22 rfl (lv_at hl 0 rfl) ?_
  refine y_cVi (D := (dC, dI)) (cl := vwCl) (tys := yt ca) (nw := zw_nest) (C := RX10) (As := [.int 9]) (rest := [.ref mo]) ⟨hx, hb, hml, hown, hts⟩ (m_X10_manyNow l dC dI ca mo H.size ad hI hm 0 1538177898441356818 9 ⟨by decide, by decide⟩) (cwV 1 hts gX10_digest_X10_manyNow rfl rfl rfl (by decide +kernel) ⟨Nat.le_of_ble_eq_true rfl, Nat.le_of_ble_eq_true rfl⟩) (va_recv hK (y_one hMo) (ci := 10) rfl (q0 := 0) rfl) ⟨rfl, hMo, hH⟩ hK hN hX zw_nest_ok rfl hl.1 rfl (Nat.le_of_ble_eq_true rfl) dX10_digest_23 ⟨Nat.le_of_ble_eq_true rfl, Nat.le_of_ble_eq_true rfl⟩ hS (yA_mono (by have b0 := hS.1; omega)) (fun H locs hB1 oq1 hz1 hS => ?_)
  obtain ⟨hMo, hH⟩ := hB1
  refine y_num (b := 0) (by decide) ?_
  refine y_cVv (D := (dC, dI)) (cl := vwCl) (tys := yt ca) (nw := zw_nest) (C := RX10) (As := [.int 0]) (rest := []) ⟨hx, hb, hml, hown, hts⟩ (m_X10_add l dC dI ca mo H.size ad hI hm 0 1538177898441356818 0 ) (cwV 1 hts gX10_digest_X10_add rfl rfl rfl (by decide +kernel) ⟨Nat.le_of_ble_eq_true rfl, Nat.le_of_ble_eq_true rfl⟩) (va_recv hK (y_one hMo) (ci := 10) rfl (q0 := 0) rfl) ⟨rfl, hMo, hH⟩ hK hN hX zw_nest_ok rfl hl.1 rfl (Nat.le_of_ble_eq_true rfl) dX10_digest_26 ⟨Nat.le_of_ble_eq_true rfl, Nat.le_of_ble_eq_true rfl⟩ hS (yA_mono (by have b0 := hS.1; omega)) (fun H locs hB1 oq1 hz1 hS => ?_)
  obtain ⟨hMo, hH⟩ := hB1
  rw [show (1538177898441356818 * 31 + (0 : Int32).toInt64 : Int64) = (-7656717369446593490) by decide +kernel] at hMo
  refine lv_iinc (v := 10) (lv' := [(1, .int 10), (0, .ref mo)]) hx hb dX10_digest_29 hl (k := 0) rfl (by decide) (by decide) rfl (fun ls hl => ?_)
  refine lv_goto (tgt := 14) hx hb dX10_digest_32 (by decide) ?_
  refine lv_iload_n hx hb dX10_digest_14 rfl (lv_at hl 0 rfl) ?_
  refine lv_bipush (v := 13) hx hb dX10_digest_15 (by decide) ?_
  refine lv_icmp_ge (tgt := 35) hx hb dX10_digest_17 (by decide) (fun c9 => absurd c9 (by decide)) (fun _ => ?_)
  refine lv_aload_n hx hb dX10_digest_20 rfl (lv_at hl 1 rfl) ?_
  refine lv_aload_n hx hb dX10_digest_21 rfl (lv_at hl 1 rfl) ?_
  refine lv_iload_n hx hb dX10_digest_22 rfl (lv_at hl 0 rfl) ?_
  refine y_cVi (D := (dC, dI)) (cl := vwCl) (tys := yt ca) (nw := zw_nest) (C := RX10) (As := [.int 10]) (rest := [.ref mo]) ⟨hx, hb, hml, hown, hts⟩ (m_X10_manyNow l dC dI ca mo H.size ad hI hm 0 (-7656717369446593490) 10 ⟨by decide, by decide⟩) (cwV 1 hts gX10_digest_X10_manyNow rfl rfl rfl (by decide +kernel) ⟨Nat.le_of_ble_eq_true rfl, Nat.le_of_ble_eq_true rfl⟩) (va_recv hK (y_one hMo) (ci := 10) rfl (q0 := 0) rfl) ⟨rfl, hMo, hH⟩ hK hN hX zw_nest_ok rfl hl.1 rfl (Nat.le_of_ble_eq_true rfl) dX10_digest_23 ⟨Nat.le_of_ble_eq_true rfl, Nat.le_of_ble_eq_true rfl⟩ hS (yA_mono (by have b0 := hS.1; omega)) (fun H locs hB1 oq1 hz1 hS => ?_)
  obtain ⟨hMo, hH⟩ := hB1
  refine y_num (b := 0) (by decide) ?_
  refine y_cVv (D := (dC, dI)) (cl := vwCl) (tys := yt ca) (nw := zw_nest) (C := RX10) (As := [.int 0]) (rest := []) ⟨hx, hb, hml, hown, hts⟩ (m_X10_add l dC dI ca mo H.size ad hI hm 0 (-7656717369446593490) 0 ) (cwV 1 hts gX10_digest_X10_add rfl rfl rfl (by decide +kernel) ⟨Nat.le_of_ble_eq_true rfl, Nat.le_of_ble_eq_true rfl⟩) (va_recv hK (y_one hMo) (ci := 10) rfl (q0 := 0) rfl) ⟨rfl, hMo, hH⟩ hK hN hX zw_nest_ok rfl hl.1 rfl (Nat.le_of_ble_eq_true rfl) dX10_digest_26 ⟨Nat.le_of_ble_eq_true rfl, Nat.le_of_ble_eq_true rfl⟩ hS (yA_mono (by have b0 := hS.1; omega)) (fun H locs hB1 oq1 hz1 hS => ?_)
  obtain ⟨hMo, hH⟩ := hB1
  rw [show ((-7656717369446593490) * 31 + (0 : Int32).toInt64 : Int64) = 2449434505379772818 by decide +kernel] at hMo
  refine lv_iinc (v := 11) (lv' := [(1, .int 11), (0, .ref mo)]) hx hb dX10_digest_29 hl (k := 0) rfl (by decide) (by decide) rfl (fun ls hl => ?_)
  refine lv_goto (tgt := 14) hx hb dX10_digest_32 (by decide) ?_
  refine lv_iload_n hx hb dX10_digest_14 rfl (lv_at hl 0 rfl) ?_
  refine lv_bipush (v := 13) hx hb dX10_digest_15 (by decide) ?_
  refine lv_icmp_ge (tgt := 35) hx hb dX10_digest_17 (by decide) (fun c9 => absurd c9 (by decide)) (fun _ => ?_)
  refine lv_aload_n hx hb dX10_digest_20 rfl (lv_at hl 1 rfl) ?_
  refine lv_aload_n hx hb dX10_digest_21 rfl (lv_at hl 1 rfl) ?_
  refine lv_iload_n hx hb dX10_digest_22 rfl (lv_at hl 0 rfl) ?_
  refine y_cVi (D := (dC, dI)) (cl := vwCl) (tys := yt ca) (nw := zw_nest) (C := RX10) (As := [.int 11]) (rest := [.ref mo]) ⟨hx, hb, hml, hown, hts⟩ (m_X10_manyNow l dC dI ca mo H.size ad hI hm 0 2449434505379772818 11 ⟨by decide, by decide⟩) (cwV 1 hts gX10_digest_X10_manyNow rfl rfl rfl (by decide +kernel) ⟨Nat.le_of_ble_eq_true rfl, Nat.le_of_ble_eq_true rfl⟩) (va_recv hK (y_one hMo) (ci := 10) rfl (q0 := 0) rfl) ⟨rfl, hMo, hH⟩ hK hN hX zw_nest_ok rfl hl.1 rfl (Nat.le_of_ble_eq_true rfl) dX10_digest_23 ⟨Nat.le_of_ble_eq_true rfl, Nat.le_of_ble_eq_true rfl⟩ hS (yA_mono (by have b0 := hS.1; omega)) (fun H locs hB1 oq1 hz1 hS => ?_)
  obtain ⟨hMo, hH⟩ := hB1
  refine y_num (b := 0) (by decide) ?_
  refine y_cVv (D := (dC, dI)) (cl := vwCl) (tys := yt ca) (nw := zw_nest) (C := RX10) (As := [.int 0]) (rest := []) ⟨hx, hb, hml, hown, hts⟩ (m_X10_add l dC dI ca mo H.size ad hI hm 0 2449434505379772818 0 ) (cwV 1 hts gX10_digest_X10_add rfl rfl rfl (by decide +kernel) ⟨Nat.le_of_ble_eq_true rfl, Nat.le_of_ble_eq_true rfl⟩) (va_recv hK (y_one hMo) (ci := 10) rfl (q0 := 0) rfl) ⟨rfl, hMo, hH⟩ hK hN hX zw_nest_ok rfl hl.1 rfl (Nat.le_of_ble_eq_true rfl) dX10_digest_26 ⟨Nat.le_of_ble_eq_true rfl, Nat.le_of_ble_eq_true rfl⟩ hS (yA_mono (by have b0 := hS.1; omega)) (fun H locs hB1 oq1 hz1 hS => ?_)
  obtain ⟨hMo, hH⟩ := hB1
  rw [show (2449434505379772818 * 31 + (0 : Int32).toInt64 : Int64) = 2145493371934750894 by decide +kernel] at hMo
  refine lv_iinc (v := 12) (lv' := [(1, .int 12), (0, .ref mo)]) hx hb dX10_digest_29 hl (k := 0) rfl (by decide) (by decide) rfl (fun ls hl => ?_)
  refine lv_goto (tgt := 14) hx hb dX10_digest_32 (by decide) ?_
  refine lv_iload_n hx hb dX10_digest_14 rfl (lv_at hl 0 rfl) ?_
  refine lv_bipush (v := 13) hx hb dX10_digest_15 (by decide) ?_
  refine lv_icmp_ge (tgt := 35) hx hb dX10_digest_17 (by decide) (fun c9 => absurd c9 (by decide)) (fun _ => ?_)
  refine lv_aload_n hx hb dX10_digest_20 rfl (lv_at hl 1 rfl) ?_
  refine lv_aload_n hx hb dX10_digest_21 rfl (lv_at hl 1 rfl) ?_
  refine lv_iload_n hx hb dX10_digest_22 rfl (lv_at hl 0 rfl) ?_
  refine y_cVi (D := (dC, dI)) (cl := vwCl) (tys := yt ca) (nw := zw_nest) (C := RX10) (As := [.int 12]) (rest := [.ref mo]) ⟨hx, hb, hml, hown, hts⟩ (m_X10_manyNow l dC dI ca mo H.size ad hI hm 0 2145493371934750894 12 ⟨by decide, by decide⟩) (cwV 1 hts gX10_digest_X10_manyNow rfl rfl rfl (by decide +kernel) ⟨Nat.le_of_ble_eq_true rfl, Nat.le_of_ble_eq_true rfl⟩) (va_recv hK (y_one hMo) (ci := 10) rfl (q0 := 0) rfl) ⟨rfl, hMo, hH⟩ hK hN hX zw_nest_ok rfl hl.1 rfl (Nat.le_of_ble_eq_true rfl) dX10_digest_23 ⟨Nat.le_of_ble_eq_true rfl, Nat.le_of_ble_eq_true rfl⟩ hS (yA_mono (by have b0 := hS.1; omega)) (fun H locs hB1 oq1 hz1 hS => ?_)
  obtain ⟨hMo, hH⟩ := hB1
  refine y_num (b := 0) (by decide) ?_
  refine y_cVv (D := (dC, dI)) (cl := vwCl) (tys := yt ca) (nw := zw_nest) (C := RX10) (As := [.int 0]) (rest := []) ⟨hx, hb, hml, hown, hts⟩ (m_X10_add l dC dI ca mo H.size ad hI hm 0 2145493371934750894 0 ) (cwV 1 hts gX10_digest_X10_add rfl rfl rfl (by decide +kernel) ⟨Nat.le_of_ble_eq_true rfl, Nat.le_of_ble_eq_true rfl⟩) (va_recv hK (y_one hMo) (ci := 10) rfl (q0 := 0) rfl) ⟨rfl, hMo, hH⟩ hK hN hX zw_nest_ok rfl hl.1 rfl (Nat.le_of_ble_eq_true rfl) dX10_digest_26 ⟨Nat.le_of_ble_eq_true rfl, Nat.le_of_ble_eq_true rfl⟩ hS (yA_mono (by have b0 := hS.1; omega)) (fun H locs hB1 oq1 hz1 hS => ?_)
  obtain ⟨hMo, hH⟩ := hB1
  rw [show (2145493371934750894 * 31 + (0 : Int32).toInt64 : Int64) = (-7276681764860928750) by decide +kernel] at hMo
  refine lv_iinc (v := 13) (lv' := [(1, .int 13), (0, .ref mo)]) hx hb dX10_digest_29 hl (k := 0) rfl (by decide) (by decide) rfl (fun ls hl => ?_)
  refine lv_goto (tgt := 14) hx hb dX10_digest_32 (by decide) ?_
  refine lv_iload_n hx hb dX10_digest_14 rfl (lv_at hl 0 rfl) ?_
  refine lv_bipush (v := 13) hx hb dX10_digest_15 (by decide) ?_
  refine lv_icmp_ge (tgt := 35) hx hb dX10_digest_17 (by decide) (fun _ => ?_) (fun c9 => absurd c9 (by decide))
  refine lv_iconst (v := 0) hx hb dX10_digest_35 (by decide) ?_
  refine lv_istore_n (lv' := [(1, .int 0), (0, .ref mo)]) hx hb dX10_digest_36 rfl hl (by decide) rfl (fun ls hl => ?_)
  refine lv_iload_n hx hb dX10_digest_37 rfl (lv_at hl 0 rfl) ?_
  refine lv_aload_n hx hb dX10_digest_38 rfl (lv_at hl 1 rfl) ?_
  refine yo_get (D := (dC, dI)) (cl := vwCl) (C := RX10) (T := TX10) (N := 3) (ci := 10) (v := .ref (ad 0)) hx hb hts hinX10 hown hK hMo rfl 1 (by decide) (hts (.fieldLink RX10 10 "SteamfieldModel" "field" "LSteamfieldModel$Field;") (by decide +kernel)) (fun _ h9 => h9) rfl dX10_digest_39 ?_
  refine z_giN (D := (dC, dI)) (cl := vwCl) (C := RX9) (T := TX9) (N := 24) (ci := 9) (k := 4) hx hb hts hinX9 hown hK hH (i := 0) yk_0 (by decide) rfl (by decide) rfl (hN (.fieldLinkNest RX10 20 "SteamfieldModel$Field" "manyBlocks" "I" "SteamfieldModel") (by decide +kernel)) (fun _ h9 => h9) dX10_digest_42 ?_
  refine y_num (b := 0) rfl ?_
  refine lv_icmp_ge (tgt := 78) hx hb dX10_digest_45 (by decide) (fun _ => ?_) (fun c9 => absurd c9 (by decide))
  refine lv_iconst (v := 0) hx hb dX10_digest_78 (by decide) ?_
  refine lv_istore_n (lv' := [(1, .int 0), (0, .ref mo)]) hx hb dX10_digest_79 rfl hl (by decide) rfl (fun ls hl => ?_)
  refine lv_iload_n hx hb dX10_digest_80 rfl (lv_at hl 0 rfl) ?_
  refine lv_aload_n hx hb dX10_digest_81 rfl (lv_at hl 1 rfl) ?_
  refine yo_get (D := (dC, dI)) (cl := vwCl) (C := RX10) (T := TX10) (N := 3) (ci := 10) (v := .ref (ad 0)) hx hb hts hinX10 hown hK hMo rfl 1 (by decide) (hts (.fieldLink RX10 10 "SteamfieldModel" "field" "LSteamfieldModel$Field;") (by decide +kernel)) (fun _ h9 => h9) rfl dX10_digest_82 ?_
  refine z_giN (D := (dC, dI)) (cl := vwCl) (C := RX9) (T := TX9) (N := 24) (ci := 9) (k := 6) hx hb hts hinX9 hown hK hH (i := 0) yk_0 (by decide) rfl (by decide) rfl (hN (.fieldLinkNest RX10 30 "SteamfieldModel$Field" "manyWells" "I" "SteamfieldModel") (by decide +kernel)) (fun _ h9 => h9) dX10_digest_85 ?_
  refine y_num (b := 0) rfl ?_
  refine lv_icmp_ge (tgt := 137) hx hb dX10_digest_88 (by decide) (fun _ => ?_) (fun c9 => absurd c9 (by decide))
  refine lv_iconst (v := 0) hx hb dX10_digest_137 (by decide) ?_
  refine lv_istore_n (lv' := [(1, .int 0), (0, .ref mo)]) hx hb dX10_digest_138 rfl hl (by decide) rfl (fun ls hl => ?_)
  refine lv_iload_n hx hb dX10_digest_139 rfl (lv_at hl 0 rfl) ?_
  refine lv_aload_n hx hb dX10_digest_140 rfl (lv_at hl 1 rfl) ?_
  refine yo_get (D := (dC, dI)) (cl := vwCl) (C := RX10) (T := TX10) (N := 3) (ci := 10) (v := .ref (ad 0)) hx hb hts hinX10 hown hK hMo rfl 1 (by decide) (hts (.fieldLink RX10 10 "SteamfieldModel" "field" "LSteamfieldModel$Field;") (by decide +kernel)) (fun _ h9 => h9) rfl dX10_digest_141 ?_
  refine z_giN (D := (dC, dI)) (cl := vwCl) (C := RX9) (T := TX9) (N := 24) (ci := 9) (k := 5) hx hb hts hinX9 hown hK hH (i := 0) yk_0 (by decide) rfl (by decide) rfl (hN (.fieldLinkNest RX10 27 "SteamfieldModel$Field" "manyFaces" "I" "SteamfieldModel") (by decide +kernel)) (fun _ h9 => h9) dX10_digest_144 ?_
  refine y_num (b := 0) rfl ?_
  refine lv_icmp_ge (tgt := 186) hx hb dX10_digest_147 (by decide) (fun _ => ?_) (fun c9 => absurd c9 (by decide))
  refine lv_iconst (v := 0) hx hb dX10_digest_186 (by decide) ?_
  refine lv_istore_n (lv' := [(1, .int 0), (0, .ref mo)]) hx hb dX10_digest_187 rfl hl (by decide) rfl (fun ls hl => ?_)
  refine lv_iload_n hx hb dX10_digest_188 rfl (lv_at hl 0 rfl) ?_
  refine lv_aload_n hx hb dX10_digest_189 rfl (lv_at hl 1 rfl) ?_
  refine yo_get (D := (dC, dI)) (cl := vwCl) (C := RX10) (T := TX10) (N := 3) (ci := 10) (v := .ref (ad 0)) hx hb hts hinX10 hown hK hMo rfl 1 (by decide) (hts (.fieldLink RX10 10 "SteamfieldModel" "field" "LSteamfieldModel$Field;") (by decide +kernel)) (fun _ h9 => h9) rfl dX10_digest_190 ?_
  refine z_giN (D := (dC, dI)) (cl := vwCl) (C := RX9) (T := TX9) (N := 24) (ci := 9) (k := 7) hx hb hts hinX9 hown hK hH (i := 0) yk_0 (by decide) rfl (by decide) rfl (hN (.fieldLinkNest RX10 33 "SteamfieldModel$Field" "manySprings" "I" "SteamfieldModel") (by decide +kernel)) (fun _ h9 => h9) dX10_digest_193 ?_
  refine y_num (b := 0) rfl ?_
  refine lv_icmp_ge (tgt := 263) hx hb dX10_digest_196 (by decide) (fun _ => ?_) (fun c9 => absurd c9 (by decide))
  refine lv_iconst (v := 0) hx hb dX10_digest_263 (by decide) ?_
  refine lv_istore_n (lv' := [(1, .int 0), (0, .ref mo)]) hx hb dX10_digest_264 rfl hl (by decide) rfl (fun ls hl => ?_)
  refine lv_iload_n hx hb dX10_digest_265 rfl (lv_at hl 0 rfl) ?_
  refine lv_iconst (v := 4) hx hb dX10_digest_266 (by decide) ?_
  refine lv_icmp_ge (tgt := 289) hx hb dX10_digest_267 (by decide) (fun c9 => absurd c9 (by decide)) (fun _ => ?_)
  refine lv_aload_n hx hb dX10_digest_270 rfl (lv_at hl 1 rfl) ?_
  refine lv_aload_n hx hb dX10_digest_271 rfl (lv_at hl 1 rfl) ?_
  refine yo_get (D := (dC, dI)) (cl := vwCl) (C := RX10) (T := TX10) (N := 3) (ci := 10) (v := .ref (ad 0)) hx hb hts hinX10 hown hK hMo rfl 1 (by decide) (hts (.fieldLink RX10 10 "SteamfieldModel" "field" "LSteamfieldModel$Field;") (by decide +kernel)) (fun _ h9 => h9) rfl dX10_digest_272 ?_
  refine z_grN (D := (dC, dI)) (cl := vwCl) (C := RX9) (T := TX9) (N := 24) (ci := 9) (k := 8) hx hb hts hinX9 hown hK hH (i := 0) yk_0 (by decide) rfl (by decide) rfl yr_8 (hN (.fieldLinkNest RX10 100 "SteamfieldModel$Field" "pond" "[I" "SteamfieldModel") (by decide +kernel)) (fun _ h9 => h9) dX10_digest_275 ?_
  refine lv_iload_n hx hb dX10_digest_278 rfl (lv_at hl 0 rfl) ?_
  refine z_al (t0 := 0) (D := (dC, dI)) (cl := vwCl) (tys := yt ca) hx hb hK hH (i := 34) yk_34 rfl (show vp_in 0 6 from zx (n := 0) rfl (by decide) (by decide)) dX10_digest_279 ?_
  refine y_num (b := 0) rfl ?_
  refine y_cVv (D := (dC, dI)) (cl := vwCl) (tys := yt ca) (nw := zw_nest) (C := RX10) (As := [.int 0]) (rest := []) ⟨hx, hb, hml, hown, hts⟩ (m_X10_add l dC dI ca mo H.size ad hI hm 0 (-7276681764860928750) 0 ) (cwV 1 hts gX10_digest_X10_add rfl rfl rfl (by decide +kernel) ⟨Nat.le_of_ble_eq_true rfl, Nat.le_of_ble_eq_true rfl⟩) (va_recv hK (y_one hMo) (ci := 10) rfl (q0 := 0) rfl) ⟨rfl, hMo, hH⟩ hK hN hX zw_nest_ok rfl hl.1 rfl (Nat.le_of_ble_eq_true rfl) dX10_digest_280 ⟨Nat.le_of_ble_eq_true rfl, Nat.le_of_ble_eq_true rfl⟩ hS (yA_mono (by have b0 := hS.1; omega)) (fun H locs hB1 oq1 hz1 hS => ?_)
  obtain ⟨hMo, hH⟩ := hB1
  rw [show ((-7276681764860928750) * 31 + (0 : Int32).toInt64 : Int64) = (-4216205826174171858) by decide +kernel] at hMo
  refine lv_iinc (v := 1) (lv' := [(1, .int 1), (0, .ref mo)]) hx hb dX10_digest_283 hl (k := 0) rfl (by decide) (by decide) rfl (fun ls hl => ?_)
  refine lv_goto (tgt := 265) hx hb dX10_digest_286 (by decide) ?_
  refine lv_iload_n hx hb dX10_digest_265 rfl (lv_at hl 0 rfl) ?_
  refine lv_iconst (v := 4) hx hb dX10_digest_266 (by decide) ?_
  refine lv_icmp_ge (tgt := 289) hx hb dX10_digest_267 (by decide) (fun c9 => absurd c9 (by decide)) (fun _ => ?_)
  refine lv_aload_n hx hb dX10_digest_270 rfl (lv_at hl 1 rfl) ?_
  refine lv_aload_n hx hb dX10_digest_271 rfl (lv_at hl 1 rfl) ?_
  refine yo_get (D := (dC, dI)) (cl := vwCl) (C := RX10) (T := TX10) (N := 3) (ci := 10) (v := .ref (ad 0)) hx hb hts hinX10 hown hK hMo rfl 1 (by decide) (hts (.fieldLink RX10 10 "SteamfieldModel" "field" "LSteamfieldModel$Field;") (by decide +kernel)) (fun _ h9 => h9) rfl dX10_digest_272 ?_
  refine z_grN (D := (dC, dI)) (cl := vwCl) (C := RX9) (T := TX9) (N := 24) (ci := 9) (k := 8) hx hb hts hinX9 hown hK hH (i := 0) yk_0 (by decide) rfl (by decide) rfl yr_8 (hN (.fieldLinkNest RX10 100 "SteamfieldModel$Field" "pond" "[I" "SteamfieldModel") (by decide +kernel)) (fun _ h9 => h9) dX10_digest_275 ?_
  refine lv_iload_n hx hb dX10_digest_278 rfl (lv_at hl 0 rfl) ?_
  refine z_al (t0 := 0) (D := (dC, dI)) (cl := vwCl) (tys := yt ca) hx hb hK hH (i := 34) yk_34 rfl (show vp_in 1 6 from zx (n := 1) rfl (by decide) (by decide)) dX10_digest_279 ?_
  refine y_num (b := 0) rfl ?_
  refine y_cVv (D := (dC, dI)) (cl := vwCl) (tys := yt ca) (nw := zw_nest) (C := RX10) (As := [.int 0]) (rest := []) ⟨hx, hb, hml, hown, hts⟩ (m_X10_add l dC dI ca mo H.size ad hI hm 0 (-4216205826174171858) 0 ) (cwV 1 hts gX10_digest_X10_add rfl rfl rfl (by decide +kernel) ⟨Nat.le_of_ble_eq_true rfl, Nat.le_of_ble_eq_true rfl⟩) (va_recv hK (y_one hMo) (ci := 10) rfl (q0 := 0) rfl) ⟨rfl, hMo, hH⟩ hK hN hX zw_nest_ok rfl hl.1 rfl (Nat.le_of_ble_eq_true rfl) dX10_digest_280 ⟨Nat.le_of_ble_eq_true rfl, Nat.le_of_ble_eq_true rfl⟩ hS (yA_mono (by have b0 := hS.1; omega)) (fun H locs hB1 oq1 hz1 hS => ?_)
  obtain ⟨hMo, hH⟩ := hB1
  rw [show ((-4216205826174171858) * 31 + (0 : Int32).toInt64 : Int64) = (-1575172095432466286) by decide +kernel] at hMo
  refine lv_iinc (v := 2) (lv' := [(1, .int 2), (0, .ref mo)]) hx hb dX10_digest_283 hl (k := 0) rfl (by decide) (by decide) rfl (fun ls hl => ?_)
  refine lv_goto (tgt := 265) hx hb dX10_digest_286 (by decide) ?_
  refine lv_iload_n hx hb dX10_digest_265 rfl (lv_at hl 0 rfl) ?_
  refine lv_iconst (v := 4) hx hb dX10_digest_266 (by decide) ?_
  refine lv_icmp_ge (tgt := 289) hx hb dX10_digest_267 (by decide) (fun c9 => absurd c9 (by decide)) (fun _ => ?_)
  refine lv_aload_n hx hb dX10_digest_270 rfl (lv_at hl 1 rfl) ?_
  refine lv_aload_n hx hb dX10_digest_271 rfl (lv_at hl 1 rfl) ?_
  refine yo_get (D := (dC, dI)) (cl := vwCl) (C := RX10) (T := TX10) (N := 3) (ci := 10) (v := .ref (ad 0)) hx hb hts hinX10 hown hK hMo rfl 1 (by decide) (hts (.fieldLink RX10 10 "SteamfieldModel" "field" "LSteamfieldModel$Field;") (by decide +kernel)) (fun _ h9 => h9) rfl dX10_digest_272 ?_
  refine z_grN (D := (dC, dI)) (cl := vwCl) (C := RX9) (T := TX9) (N := 24) (ci := 9) (k := 8) hx hb hts hinX9 hown hK hH (i := 0) yk_0 (by decide) rfl (by decide) rfl yr_8 (hN (.fieldLinkNest RX10 100 "SteamfieldModel$Field" "pond" "[I" "SteamfieldModel") (by decide +kernel)) (fun _ h9 => h9) dX10_digest_275 ?_
  refine lv_iload_n hx hb dX10_digest_278 rfl (lv_at hl 0 rfl) ?_
  refine z_al (t0 := 0) (D := (dC, dI)) (cl := vwCl) (tys := yt ca) hx hb hK hH (i := 34) yk_34 rfl (show vp_in 2 6 from zx (n := 2) rfl (by decide) (by decide)) dX10_digest_279 ?_
  refine y_num (b := 0) rfl ?_
  refine y_cVv (D := (dC, dI)) (cl := vwCl) (tys := yt ca) (nw := zw_nest) (C := RX10) (As := [.int 0]) (rest := []) ⟨hx, hb, hml, hown, hts⟩ (m_X10_add l dC dI ca mo H.size ad hI hm 0 (-1575172095432466286) 0 ) (cwV 1 hts gX10_digest_X10_add rfl rfl rfl (by decide +kernel) ⟨Nat.le_of_ble_eq_true rfl, Nat.le_of_ble_eq_true rfl⟩) (va_recv hK (y_one hMo) (ci := 10) rfl (q0 := 0) rfl) ⟨rfl, hMo, hH⟩ hK hN hX zw_nest_ok rfl hl.1 rfl (Nat.le_of_ble_eq_true rfl) dX10_digest_280 ⟨Nat.le_of_ble_eq_true rfl, Nat.le_of_ble_eq_true rfl⟩ hS (yA_mono (by have b0 := hS.1; omega)) (fun H locs hB1 oq1 hz1 hS => ?_)
  obtain ⟨hMo, hH⟩ := hB1
  rw [show ((-1575172095432466286) * 31 + (0 : Int32).toInt64 : Int64) = 6509897262722199982 by decide +kernel] at hMo
  refine lv_iinc (v := 3) (lv' := [(1, .int 3), (0, .ref mo)]) hx hb dX10_digest_283 hl (k := 0) rfl (by decide) (by decide) rfl (fun ls hl => ?_)
  refine lv_goto (tgt := 265) hx hb dX10_digest_286 (by decide) ?_
  refine lv_iload_n hx hb dX10_digest_265 rfl (lv_at hl 0 rfl) ?_
  refine lv_iconst (v := 4) hx hb dX10_digest_266 (by decide) ?_
  refine lv_icmp_ge (tgt := 289) hx hb dX10_digest_267 (by decide) (fun c9 => absurd c9 (by decide)) (fun _ => ?_)
  refine lv_aload_n hx hb dX10_digest_270 rfl (lv_at hl 1 rfl) ?_
  refine lv_aload_n hx hb dX10_digest_271 rfl (lv_at hl 1 rfl) ?_
  refine yo_get (D := (dC, dI)) (cl := vwCl) (C := RX10) (T := TX10) (N := 3) (ci := 10) (v := .ref (ad 0)) hx hb hts hinX10 hown hK hMo rfl 1 (by decide) (hts (.fieldLink RX10 10 "SteamfieldModel" "field" "LSteamfieldModel$Field;") (by decide +kernel)) (fun _ h9 => h9) rfl dX10_digest_272 ?_
  refine z_grN (D := (dC, dI)) (cl := vwCl) (C := RX9) (T := TX9) (N := 24) (ci := 9) (k := 8) hx hb hts hinX9 hown hK hH (i := 0) yk_0 (by decide) rfl (by decide) rfl yr_8 (hN (.fieldLinkNest RX10 100 "SteamfieldModel$Field" "pond" "[I" "SteamfieldModel") (by decide +kernel)) (fun _ h9 => h9) dX10_digest_275 ?_
  refine lv_iload_n hx hb dX10_digest_278 rfl (lv_at hl 0 rfl) ?_
  refine z_al (t0 := 0) (D := (dC, dI)) (cl := vwCl) (tys := yt ca) hx hb hK hH (i := 34) yk_34 rfl (show vp_in 3 6 from zx (n := 3) rfl (by decide) (by decide)) dX10_digest_279 ?_
  refine y_num (b := 0) rfl ?_
  refine y_cVv (D := (dC, dI)) (cl := vwCl) (tys := yt ca) (nw := zw_nest) (C := RX10) (As := [.int 0]) (rest := []) ⟨hx, hb, hml, hown, hts⟩ (m_X10_add l dC dI ca mo H.size ad hI hm 0 6509897262722199982 0 ) (cwV 1 hts gX10_digest_X10_add rfl rfl rfl (by decide +kernel) ⟨Nat.le_of_ble_eq_true rfl, Nat.le_of_ble_eq_true rfl⟩) (va_recv hK (y_one hMo) (ci := 10) rfl (q0 := 0) rfl) ⟨rfl, hMo, hH⟩ hK hN hX zw_nest_ok rfl hl.1 rfl (Nat.le_of_ble_eq_true rfl) dX10_digest_280 ⟨Nat.le_of_ble_eq_true rfl, Nat.le_of_ble_eq_true rfl⟩ hS (yA_mono (by have b0 := hS.1; omega)) (fun H locs hB1 oq1 hz1 hS => ?_)
  obtain ⟨hMo, hH⟩ := hB1
  rw [show (6509897262722199982 * 31 + (0 : Int32).toInt64 : Int64) = (-1107369666416868334) by decide +kernel] at hMo
  refine lv_iinc (v := 4) (lv' := [(1, .int 4), (0, .ref mo)]) hx hb dX10_digest_283 hl (k := 0) rfl (by decide) (by decide) rfl (fun ls hl => ?_)
  refine lv_goto (tgt := 265) hx hb dX10_digest_286 (by decide) ?_
  refine lv_iload_n hx hb dX10_digest_265 rfl (lv_at hl 0 rfl) ?_
  refine lv_iconst (v := 4) hx hb dX10_digest_266 (by decide) ?_
  refine lv_icmp_ge (tgt := 289) hx hb dX10_digest_267 (by decide) (fun _ => ?_) (fun c9 => absurd c9 (by decide))
  refine lv_iconst (v := 0) hx hb dX10_digest_289 (by decide) ?_
  refine lv_istore_n (lv' := [(1, .int 0), (0, .ref mo)]) hx hb dX10_digest_290 rfl hl (by decide) rfl (fun ls hl => ?_)
  refine lv_iload_n hx hb dX10_digest_291 rfl (lv_at hl 0 rfl) ?_
  refine lv_iconst (v := 2) hx hb dX10_digest_292 (by decide) ?_
  refine lv_icmp_ge (tgt := 327) hx hb dX10_digest_293 (by decide) (fun c9 => absurd c9 (by decide)) (fun _ => ?_)
  refine lv_aload_n hx hb dX10_digest_296 rfl (lv_at hl 1 rfl) ?_
  refine lv_aload_n hx hb dX10_digest_297 rfl (lv_at hl 1 rfl) ?_
  refine yo_get (D := (dC, dI)) (cl := vwCl) (C := RX10) (T := TX10) (N := 3) (ci := 10) (v := .ref (ad 0)) hx hb hts hinX10 hown hK hMo rfl 1 (by decide) (hts (.fieldLink RX10 10 "SteamfieldModel" "field" "LSteamfieldModel$Field;") (by decide +kernel)) (fun _ h9 => h9) rfl dX10_digest_298 ?_
  refine z_grN (D := (dC, dI)) (cl := vwCl) (C := RX9) (T := TX9) (N := 24) (ci := 9) (k := 12) hx hb hts hinX9 hown hK hH (i := 0) yk_0 (by decide) rfl (by decide) rfl yr_12 (hN (.fieldLinkNest RX10 64 "SteamfieldModel$Field" "coins" "[I" "SteamfieldModel") (by decide +kernel)) (fun _ h9 => h9) dX10_digest_301 ?_
  refine lv_iload_n hx hb dX10_digest_304 rfl (lv_at hl 0 rfl) ?_
  refine z_al (t0 := 0) (D := (dC, dI)) (cl := vwCl) (tys := yt ca) hx hb hK hH (i := 38) yk_38 rfl (show vp_in 0 2 from zx (n := 0) rfl (by decide) (by decide)) dX10_digest_305 ?_
  refine y_num (b := 100) rfl ?_
  refine y_cVv (D := (dC, dI)) (cl := vwCl) (tys := yt ca) (nw := zw_nest) (C := RX10) (As := [.int 100]) (rest := []) ⟨hx, hb, hml, hown, hts⟩ (m_X10_add l dC dI ca mo H.size ad hI hm 0 (-1107369666416868334) 100 ) (cwV 1 hts gX10_digest_X10_add rfl rfl rfl (by decide +kernel) ⟨Nat.le_of_ble_eq_true rfl, Nat.le_of_ble_eq_true rfl⟩) (va_recv hK (y_one hMo) (ci := 10) rfl (q0 := 0) rfl) ⟨rfl, hMo, hH⟩ hK hN hX zw_nest_ok rfl hl.1 rfl (Nat.le_of_ble_eq_true rfl) dX10_digest_306 ⟨Nat.le_of_ble_eq_true rfl, Nat.le_of_ble_eq_true rfl⟩ hS (yA_mono (by have b0 := hS.1; omega)) (fun H locs hB1 oq1 hz1 hS => ?_)
  obtain ⟨hMo, hH⟩ := hB1
  rw [show ((-1107369666416868334) * 31 + (100 : Int32).toInt64 : Int64) = 2565028488496184978 by decide +kernel] at hMo
  refine lv_aload_n hx hb dX10_digest_309 rfl (lv_at hl 1 rfl) ?_
  refine lv_aload_n hx hb dX10_digest_310 rfl (lv_at hl 1 rfl) ?_
  refine yo_get (D := (dC, dI)) (cl := vwCl) (C := RX10) (T := TX10) (N := 3) (ci := 10) (v := .ref (ad 0)) hx hb hts hinX10 hown hK hMo rfl 1 (by decide) (hts (.fieldLink RX10 10 "SteamfieldModel" "field" "LSteamfieldModel$Field;") (by decide +kernel)) (fun _ h9 => h9) rfl dX10_digest_311 ?_
  refine lv_iload_n hx hb dX10_digest_314 rfl (lv_at hl 0 rfl) ?_
  refine y_cVi (D := (dC, dI)) (cl := vwCl) (tys := yt ca) (nw := zw_nest) (C := RX9) (As := [.int 0]) (rest := [.ref mo]) ⟨hx, hb, hml, hown, hts⟩ (m_X9_share l dC dI ca ad hI 0 (by decide) 0 ) (cwV 1 hts gX10_digest_X9_share rfl rfl rfl (by decide +kernel) ⟨Nat.le_of_ble_eq_true rfl, Nat.le_of_ble_eq_true rfl⟩) (z_recv (ci := 9) (i := 0) hK hH yk_0 (by decide) rfl) hH hK hN hX zw_nest_ok rfl hl.1 rfl (Nat.le_of_ble_eq_true rfl) dX10_digest_315 ⟨Nat.le_of_ble_eq_true rfl, Nat.le_of_ble_eq_true rfl⟩ hS (fun _ h => Or.inr (Or.inl h)) (fun H locs hB1 oq1 hz1 hS => ?_)
  have hMo := va_at.kept hMo (oq1 _ (va_at.lt hMo) (fun ⟨j, hj, e9⟩ => hm j hj e9))
  have hH : z_H (dC, dI) vwCl yf ca yd ad (yM 0) H := hB1
  refine y_cVv (D := (dC, dI)) (cl := vwCl) (tys := yt ca) (nw := zw_nest) (C := RX10) (As := [.int 0]) (rest := []) ⟨hx, hb, hml, hown, hts⟩ (m_X10_add l dC dI ca mo H.size ad hI hm 0 2565028488496184978 0 ) (cwV 1 hts gX10_digest_X10_add rfl rfl rfl (by decide +kernel) ⟨Nat.le_of_ble_eq_true rfl, Nat.le_of_ble_eq_true rfl⟩) (va_recv hK (y_one hMo) (ci := 10) rfl (q0 := 0) rfl) ⟨rfl, hMo, hH⟩ hK hN hX zw_nest_ok rfl hl.1 rfl (Nat.le_of_ble_eq_true rfl) dX10_digest_318 ⟨Nat.le_of_ble_eq_true rfl, Nat.le_of_ble_eq_true rfl⟩ hS (yA_mono (by have b0 := hS.1; omega)) (fun H locs hB1 oq1 hz1 hS => ?_)
  obtain ⟨hMo, hH⟩ := hB1
  rw [show (2565028488496184978 * 31 + (0 : Int32).toInt64 : Int64) = 5728906848543527854 by decide +kernel] at hMo
  refine lv_iinc (v := 1) (lv' := [(1, .int 1), (0, .ref mo)]) hx hb dX10_digest_321 hl (k := 0) rfl (by decide) (by decide) rfl (fun ls hl => ?_)
  refine lv_goto (tgt := 291) hx hb dX10_digest_324 (by decide) ?_
  refine lv_iload_n hx hb dX10_digest_291 rfl (lv_at hl 0 rfl) ?_
  refine lv_iconst (v := 2) hx hb dX10_digest_292 (by decide) ?_
  refine lv_icmp_ge (tgt := 327) hx hb dX10_digest_293 (by decide) (fun c9 => absurd c9 (by decide)) (fun _ => ?_)
  refine lv_aload_n hx hb dX10_digest_296 rfl (lv_at hl 1 rfl) ?_
  refine lv_aload_n hx hb dX10_digest_297 rfl (lv_at hl 1 rfl) ?_
  refine yo_get (D := (dC, dI)) (cl := vwCl) (C := RX10) (T := TX10) (N := 3) (ci := 10) (v := .ref (ad 0)) hx hb hts hinX10 hown hK hMo rfl 1 (by decide) (hts (.fieldLink RX10 10 "SteamfieldModel" "field" "LSteamfieldModel$Field;") (by decide +kernel)) (fun _ h9 => h9) rfl dX10_digest_298 ?_
  refine z_grN (D := (dC, dI)) (cl := vwCl) (C := RX9) (T := TX9) (N := 24) (ci := 9) (k := 12) hx hb hts hinX9 hown hK hH (i := 0) yk_0 (by decide) rfl (by decide) rfl yr_12 (hN (.fieldLinkNest RX10 64 "SteamfieldModel$Field" "coins" "[I" "SteamfieldModel") (by decide +kernel)) (fun _ h9 => h9) dX10_digest_301 ?_
  refine lv_iload_n hx hb dX10_digest_304 rfl (lv_at hl 0 rfl) ?_
  refine z_al (t0 := 0) (D := (dC, dI)) (cl := vwCl) (tys := yt ca) hx hb hK hH (i := 38) yk_38 rfl (show vp_in 1 2 from zx (n := 1) rfl (by decide) (by decide)) dX10_digest_305 ?_
  refine y_num (b := 100) rfl ?_
  refine y_cVv (D := (dC, dI)) (cl := vwCl) (tys := yt ca) (nw := zw_nest) (C := RX10) (As := [.int 100]) (rest := []) ⟨hx, hb, hml, hown, hts⟩ (m_X10_add l dC dI ca mo H.size ad hI hm 0 5728906848543527854 100 ) (cwV 1 hts gX10_digest_X10_add rfl rfl rfl (by decide +kernel) ⟨Nat.le_of_ble_eq_true rfl, Nat.le_of_ble_eq_true rfl⟩) (va_recv hK (y_one hMo) (ci := 10) rfl (q0 := 0) rfl) ⟨rfl, hMo, hH⟩ hK hN hX zw_nest_ok rfl hl.1 rfl (Nat.le_of_ble_eq_true rfl) dX10_digest_306 ⟨Nat.le_of_ble_eq_true rfl, Nat.le_of_ble_eq_true rfl⟩ hS (yA_mono (by have b0 := hS.1; omega)) (fun H locs hB1 oq1 hz1 hS => ?_)
  obtain ⟨hMo, hH⟩ := hB1
  rw [show (5728906848543527854 * 31 + (100 : Int32).toInt64 : Int64) = (-6871328432246152586) by decide +kernel] at hMo
  refine lv_aload_n hx hb dX10_digest_309 rfl (lv_at hl 1 rfl) ?_
  refine lv_aload_n hx hb dX10_digest_310 rfl (lv_at hl 1 rfl) ?_
  refine yo_get (D := (dC, dI)) (cl := vwCl) (C := RX10) (T := TX10) (N := 3) (ci := 10) (v := .ref (ad 0)) hx hb hts hinX10 hown hK hMo rfl 1 (by decide) (hts (.fieldLink RX10 10 "SteamfieldModel" "field" "LSteamfieldModel$Field;") (by decide +kernel)) (fun _ h9 => h9) rfl dX10_digest_311 ?_
  refine lv_iload_n hx hb dX10_digest_314 rfl (lv_at hl 0 rfl) ?_
  refine y_cVi (D := (dC, dI)) (cl := vwCl) (tys := yt ca) (nw := zw_nest) (C := RX9) (As := [.int 1]) (rest := [.ref mo]) ⟨hx, hb, hml, hown, hts⟩ (m_X9_share l dC dI ca ad hI 0 (by decide) 1 ) (cwV 1 hts gX10_digest_X9_share rfl rfl rfl (by decide +kernel) ⟨Nat.le_of_ble_eq_true rfl, Nat.le_of_ble_eq_true rfl⟩) (z_recv (ci := 9) (i := 0) hK hH yk_0 (by decide) rfl) hH hK hN hX zw_nest_ok rfl hl.1 rfl (Nat.le_of_ble_eq_true rfl) dX10_digest_315 ⟨Nat.le_of_ble_eq_true rfl, Nat.le_of_ble_eq_true rfl⟩ hS (fun _ h => Or.inr (Or.inl h)) (fun H locs hB1 oq1 hz1 hS => ?_)
  have hMo := va_at.kept hMo (oq1 _ (va_at.lt hMo) (fun ⟨j, hj, e9⟩ => hm j hj e9))
  have hH : z_H (dC, dI) vwCl yf ca yd ad (yM 0) H := hB1
  refine y_cVv (D := (dC, dI)) (cl := vwCl) (tys := yt ca) (nw := zw_nest) (C := RX10) (As := [.int 0]) (rest := []) ⟨hx, hb, hml, hown, hts⟩ (m_X10_add l dC dI ca mo H.size ad hI hm 0 (-6871328432246152586) 0 ) (cwV 1 hts gX10_digest_X10_add rfl rfl rfl (by decide +kernel) ⟨Nat.le_of_ble_eq_true rfl, Nat.le_of_ble_eq_true rfl⟩) (va_recv hK (y_one hMo) (ci := 10) rfl (q0 := 0) rfl) ⟨rfl, hMo, hH⟩ hK hN hX zw_nest_ok rfl hl.1 rfl (Nat.le_of_ble_eq_true rfl) dX10_digest_318 ⟨Nat.le_of_ble_eq_true rfl, Nat.le_of_ble_eq_true rfl⟩ hS (yA_mono (by have b0 := hS.1; omega)) (fun H locs hB1 oq1 hz1 hS => ?_)
  obtain ⟨hMo, hH⟩ := hB1
  rw [show ((-6871328432246152586) * 31 + (0 : Int32).toInt64 : Int64) = 8349747484883889226 by decide +kernel] at hMo
  refine lv_iinc (v := 2) (lv' := [(1, .int 2), (0, .ref mo)]) hx hb dX10_digest_321 hl (k := 0) rfl (by decide) (by decide) rfl (fun ls hl => ?_)
  refine lv_goto (tgt := 291) hx hb dX10_digest_324 (by decide) ?_
  refine lv_iload_n hx hb dX10_digest_291 rfl (lv_at hl 0 rfl) ?_
  refine lv_iconst (v := 2) hx hb dX10_digest_292 (by decide) ?_
  refine lv_icmp_ge (tgt := 327) hx hb dX10_digest_293 (by decide) (fun _ => ?_) (fun c9 => absurd c9 (by decide))
  refine lv_iconst (v := 0) hx hb dX10_digest_327 (by decide) ?_
  refine lv_istore_n (lv' := [(1, .int 0), (0, .ref mo)]) hx hb dX10_digest_328 rfl hl (by decide) rfl (fun ls hl => ?_)
  refine lv_iload_n hx hb dX10_digest_329 rfl (lv_at hl 0 rfl) ?_
  refine lv_bipush (v := 7) hx hb dX10_digest_330 (by decide) ?_
  refine lv_icmp_ge (tgt := 350) hx hb dX10_digest_332 (by decide) (fun c9 => absurd c9 (by decide)) (fun _ => ?_)
  refine lv_aload_n hx hb dX10_digest_335 rfl (lv_at hl 1 rfl) ?_
  refine lv_aload_n hx hb dX10_digest_336 rfl (lv_at hl 1 rfl) ?_
  refine lv_iload_n hx hb dX10_digest_337 rfl (lv_at hl 0 rfl) ?_
  refine y_cVi (D := (dC, dI)) (cl := vwCl) (tys := yt ca) (nw := zw_nest) (C := RX10) (As := [.int 0]) (rest := [.ref mo]) ⟨hx, hb, hml, hown, hts⟩ (m_X10_massNow l dC dI ca mo H.size ad hI hm 0 8349747484883889226 0 ⟨by decide, by decide⟩) (cwV 1 hts gX10_digest_X10_massNow rfl rfl rfl (by decide +kernel) ⟨Nat.le_of_ble_eq_true rfl, Nat.le_of_ble_eq_true rfl⟩) (va_recv hK (y_one hMo) (ci := 10) rfl (q0 := 0) rfl) ⟨rfl, hMo, hH⟩ hK hN hX zw_nest_ok rfl hl.1 rfl (Nat.le_of_ble_eq_true rfl) dX10_digest_338 ⟨Nat.le_of_ble_eq_true rfl, Nat.le_of_ble_eq_true rfl⟩ hS (yA_mono (by have b0 := hS.1; omega)) (fun H locs hB1 oq1 hz1 hS => ?_)
  obtain ⟨hMo, hH⟩ := hB1
  refine y_cVv (D := (dC, dI)) (cl := vwCl) (tys := yt ca) (nw := zw_nest) (C := RX10) (As := [.int 0]) (rest := []) ⟨hx, hb, hml, hown, hts⟩ (m_X10_add l dC dI ca mo H.size ad hI hm 0 8349747484883889226 0 ) (cwV 1 hts gX10_digest_X10_add rfl rfl rfl (by decide +kernel) ⟨Nat.le_of_ble_eq_true rfl, Nat.le_of_ble_eq_true rfl⟩) (va_recv hK (y_one hMo) (ci := 10) rfl (q0 := 0) rfl) ⟨rfl, hMo, hH⟩ hK hN hX zw_nest_ok rfl hl.1 rfl (Nat.le_of_ble_eq_true rfl) dX10_digest_341 ⟨Nat.le_of_ble_eq_true rfl, Nat.le_of_ble_eq_true rfl⟩ hS (yA_mono (by have b0 := hS.1; omega)) (fun H locs hB1 oq1 hz1 hS => ?_)
  obtain ⟨hMo, hH⟩ := hB1
  rw [show (8349747484883889226 * 31 + (0 : Int32).toInt64 : Int64) = 587754999466843382 by decide +kernel] at hMo
  refine lv_iinc (v := 1) (lv' := [(1, .int 1), (0, .ref mo)]) hx hb dX10_digest_344 hl (k := 0) rfl (by decide) (by decide) rfl (fun ls hl => ?_)
  refine lv_goto (tgt := 329) hx hb dX10_digest_347 (by decide) ?_
  refine lv_iload_n hx hb dX10_digest_329 rfl (lv_at hl 0 rfl) ?_
  refine lv_bipush (v := 7) hx hb dX10_digest_330 (by decide) ?_
  refine lv_icmp_ge (tgt := 350) hx hb dX10_digest_332 (by decide) (fun c9 => absurd c9 (by decide)) (fun _ => ?_)
  refine lv_aload_n hx hb dX10_digest_335 rfl (lv_at hl 1 rfl) ?_
  refine lv_aload_n hx hb dX10_digest_336 rfl (lv_at hl 1 rfl) ?_
  refine lv_iload_n hx hb dX10_digest_337 rfl (lv_at hl 0 rfl) ?_
  refine y_cVi (D := (dC, dI)) (cl := vwCl) (tys := yt ca) (nw := zw_nest) (C := RX10) (As := [.int 1]) (rest := [.ref mo]) ⟨hx, hb, hml, hown, hts⟩ (m_X10_massNow l dC dI ca mo H.size ad hI hm 0 587754999466843382 1 ⟨by decide, by decide⟩) (cwV 1 hts gX10_digest_X10_massNow rfl rfl rfl (by decide +kernel) ⟨Nat.le_of_ble_eq_true rfl, Nat.le_of_ble_eq_true rfl⟩) (va_recv hK (y_one hMo) (ci := 10) rfl (q0 := 0) rfl) ⟨rfl, hMo, hH⟩ hK hN hX zw_nest_ok rfl hl.1 rfl (Nat.le_of_ble_eq_true rfl) dX10_digest_338 ⟨Nat.le_of_ble_eq_true rfl, Nat.le_of_ble_eq_true rfl⟩ hS (yA_mono (by have b0 := hS.1; omega)) (fun H locs hB1 oq1 hz1 hS => ?_)
  obtain ⟨hMo, hH⟩ := hB1
  refine y_cVv (D := (dC, dI)) (cl := vwCl) (tys := yt ca) (nw := zw_nest) (C := RX10) (As := [.int 0]) (rest := []) ⟨hx, hb, hml, hown, hts⟩ (m_X10_add l dC dI ca mo H.size ad hI hm 0 587754999466843382 0 ) (cwV 1 hts gX10_digest_X10_add rfl rfl rfl (by decide +kernel) ⟨Nat.le_of_ble_eq_true rfl, Nat.le_of_ble_eq_true rfl⟩) (va_recv hK (y_one hMo) (ci := 10) rfl (q0 := 0) rfl) ⟨rfl, hMo, hH⟩ hK hN hX zw_nest_ok rfl hl.1 rfl (Nat.le_of_ble_eq_true rfl) dX10_digest_341 ⟨Nat.le_of_ble_eq_true rfl, Nat.le_of_ble_eq_true rfl⟩ hS (yA_mono (by have b0 := hS.1; omega)) (fun H locs hB1 oq1 hz1 hS => ?_)
  obtain ⟨hMo, hH⟩ := hB1
  rw [show (587754999466843382 * 31 + (0 : Int32).toInt64 : Int64) = (-226339090237406774) by decide +kernel] at hMo
  refine lv_iinc (v := 2) (lv' := [(1, .int 2), (0, .ref mo)]) hx hb dX10_digest_344 hl (k := 0) rfl (by decide) (by decide) rfl (fun ls hl => ?_)
  refine lv_goto (tgt := 329) hx hb dX10_digest_347 (by decide) ?_
  refine lv_iload_n hx hb dX10_digest_329 rfl (lv_at hl 0 rfl) ?_
  refine lv_bipush (v := 7) hx hb dX10_digest_330 (by decide) ?_
  refine lv_icmp_ge (tgt := 350) hx hb dX10_digest_332 (by decide) (fun c9 => absurd c9 (by decide)) (fun _ => ?_)
  refine lv_aload_n hx hb dX10_digest_335 rfl (lv_at hl 1 rfl) ?_
  refine lv_aload_n hx hb dX10_digest_336 rfl (lv_at hl 1 rfl) ?_
  refine lv_iload_n hx hb dX10_digest_337 rfl (lv_at hl 0 rfl) ?_
  refine y_cVi (D := (dC, dI)) (cl := vwCl) (tys := yt ca) (nw := zw_nest) (C := RX10) (As := [.int 2]) (rest := [.ref mo]) ⟨hx, hb, hml, hown, hts⟩ (m_X10_massNow l dC dI ca mo H.size ad hI hm 0 (-226339090237406774) 2 ⟨by decide, by decide⟩) (cwV 1 hts gX10_digest_X10_massNow rfl rfl rfl (by decide +kernel) ⟨Nat.le_of_ble_eq_true rfl, Nat.le_of_ble_eq_true rfl⟩) (va_recv hK (y_one hMo) (ci := 10) rfl (q0 := 0) rfl) ⟨rfl, hMo, hH⟩ hK hN hX zw_nest_ok rfl hl.1 rfl (Nat.le_of_ble_eq_true rfl) dX10_digest_338 ⟨Nat.le_of_ble_eq_true rfl, Nat.le_of_ble_eq_true rfl⟩ hS (yA_mono (by have b0 := hS.1; omega)) (fun H locs hB1 oq1 hz1 hS => ?_)
  obtain ⟨hMo, hH⟩ := hB1
  refine y_cVv (D := (dC, dI)) (cl := vwCl) (tys := yt ca) (nw := zw_nest) (C := RX10) (As := [.int 0]) (rest := []) ⟨hx, hb, hml, hown, hts⟩ (m_X10_add l dC dI ca mo H.size ad hI hm 0 (-226339090237406774) 0 ) (cwV 1 hts gX10_digest_X10_add rfl rfl rfl (by decide +kernel) ⟨Nat.le_of_ble_eq_true rfl, Nat.le_of_ble_eq_true rfl⟩) (va_recv hK (y_one hMo) (ci := 10) rfl (q0 := 0) rfl) ⟨rfl, hMo, hH⟩ hK hN hX zw_nest_ok rfl hl.1 rfl (Nat.le_of_ble_eq_true rfl) dX10_digest_341 ⟨Nat.le_of_ble_eq_true rfl, Nat.le_of_ble_eq_true rfl⟩ hS (yA_mono (by have b0 := hS.1; omega)) (fun H locs hB1 oq1 hz1 hS => ?_)
  obtain ⟨hMo, hH⟩ := hB1
  rw [show ((-226339090237406774) * 31 + (0 : Int32).toInt64 : Int64) = (-7016511797359609994) by decide +kernel] at hMo
  refine lv_iinc (v := 3) (lv' := [(1, .int 3), (0, .ref mo)]) hx hb dX10_digest_344 hl (k := 0) rfl (by decide) (by decide) rfl (fun ls hl => ?_)
  refine lv_goto (tgt := 329) hx hb dX10_digest_347 (by decide) ?_
  refine lv_iload_n hx hb dX10_digest_329 rfl (lv_at hl 0 rfl) ?_
  refine lv_bipush (v := 7) hx hb dX10_digest_330 (by decide) ?_
  refine lv_icmp_ge (tgt := 350) hx hb dX10_digest_332 (by decide) (fun c9 => absurd c9 (by decide)) (fun _ => ?_)
  refine lv_aload_n hx hb dX10_digest_335 rfl (lv_at hl 1 rfl) ?_
  refine lv_aload_n hx hb dX10_digest_336 rfl (lv_at hl 1 rfl) ?_
  refine lv_iload_n hx hb dX10_digest_337 rfl (lv_at hl 0 rfl) ?_
  refine y_cVi (D := (dC, dI)) (cl := vwCl) (tys := yt ca) (nw := zw_nest) (C := RX10) (As := [.int 3]) (rest := [.ref mo]) ⟨hx, hb, hml, hown, hts⟩ (m_X10_massNow l dC dI ca mo H.size ad hI hm 0 (-7016511797359609994) 3 ⟨by decide, by decide⟩) (cwV 1 hts gX10_digest_X10_massNow rfl rfl rfl (by decide +kernel) ⟨Nat.le_of_ble_eq_true rfl, Nat.le_of_ble_eq_true rfl⟩) (va_recv hK (y_one hMo) (ci := 10) rfl (q0 := 0) rfl) ⟨rfl, hMo, hH⟩ hK hN hX zw_nest_ok rfl hl.1 rfl (Nat.le_of_ble_eq_true rfl) dX10_digest_338 ⟨Nat.le_of_ble_eq_true rfl, Nat.le_of_ble_eq_true rfl⟩ hS (yA_mono (by have b0 := hS.1; omega)) (fun H locs hB1 oq1 hz1 hS => ?_)
  obtain ⟨hMo, hH⟩ := hB1
  refine y_cVv (D := (dC, dI)) (cl := vwCl) (tys := yt ca) (nw := zw_nest) (C := RX10) (As := [.int 0]) (rest := []) ⟨hx, hb, hml, hown, hts⟩ (m_X10_add l dC dI ca mo H.size ad hI hm 0 (-7016511797359609994) 0 ) (cwV 1 hts gX10_digest_X10_add rfl rfl rfl (by decide +kernel) ⟨Nat.le_of_ble_eq_true rfl, Nat.le_of_ble_eq_true rfl⟩) (va_recv hK (y_one hMo) (ci := 10) rfl (q0 := 0) rfl) ⟨rfl, hMo, hH⟩ hK hN hX zw_nest_ok rfl hl.1 rfl (Nat.le_of_ble_eq_true rfl) dX10_digest_341 ⟨Nat.le_of_ble_eq_true rfl, Nat.le_of_ble_eq_true rfl⟩ hS (yA_mono (by have b0 := hS.1; omega)) (fun H locs hB1 oq1 hz1 hS => ?_)
  obtain ⟨hMo, hH⟩ := hB1
  rw [show ((-7016511797359609994) * 31 + (0 : Int32).toInt64 : Int64) = 3849063166366709578 by decide +kernel] at hMo
  refine lv_iinc (v := 4) (lv' := [(1, .int 4), (0, .ref mo)]) hx hb dX10_digest_344 hl (k := 0) rfl (by decide) (by decide) rfl (fun ls hl => ?_)
  refine lv_goto (tgt := 329) hx hb dX10_digest_347 (by decide) ?_
  refine lv_iload_n hx hb dX10_digest_329 rfl (lv_at hl 0 rfl) ?_
  refine lv_bipush (v := 7) hx hb dX10_digest_330 (by decide) ?_
  refine lv_icmp_ge (tgt := 350) hx hb dX10_digest_332 (by decide) (fun c9 => absurd c9 (by decide)) (fun _ => ?_)
  refine lv_aload_n hx hb dX10_digest_335 rfl (lv_at hl 1 rfl) ?_
  refine lv_aload_n hx hb dX10_digest_336 rfl (lv_at hl 1 rfl) ?_
  refine lv_iload_n hx hb dX10_digest_337 rfl (lv_at hl 0 rfl) ?_
  refine y_cVi (D := (dC, dI)) (cl := vwCl) (tys := yt ca) (nw := zw_nest) (C := RX10) (As := [.int 4]) (rest := [.ref mo]) ⟨hx, hb, hml, hown, hts⟩ (m_X10_massNow l dC dI ca mo H.size ad hI hm 0 3849063166366709578 4 ⟨by decide, by decide⟩) (cwV 1 hts gX10_digest_X10_massNow rfl rfl rfl (by decide +kernel) ⟨Nat.le_of_ble_eq_true rfl, Nat.le_of_ble_eq_true rfl⟩) (va_recv hK (y_one hMo) (ci := 10) rfl (q0 := 0) rfl) ⟨rfl, hMo, hH⟩ hK hN hX zw_nest_ok rfl hl.1 rfl (Nat.le_of_ble_eq_true rfl) dX10_digest_338 ⟨Nat.le_of_ble_eq_true rfl, Nat.le_of_ble_eq_true rfl⟩ hS (yA_mono (by have b0 := hS.1; omega)) (fun H locs hB1 oq1 hz1 hS => ?_)
  obtain ⟨hMo, hH⟩ := hB1
  refine y_cVv (D := (dC, dI)) (cl := vwCl) (tys := yt ca) (nw := zw_nest) (C := RX10) (As := [.int 0]) (rest := []) ⟨hx, hb, hml, hown, hts⟩ (m_X10_add l dC dI ca mo H.size ad hI hm 0 3849063166366709578 0 ) (cwV 1 hts gX10_digest_X10_add rfl rfl rfl (by decide +kernel) ⟨Nat.le_of_ble_eq_true rfl, Nat.le_of_ble_eq_true rfl⟩) (va_recv hK (y_one hMo) (ci := 10) rfl (q0 := 0) rfl) ⟨rfl, hMo, hH⟩ hK hN hX zw_nest_ok rfl hl.1 rfl (Nat.le_of_ble_eq_true rfl) dX10_digest_341 ⟨Nat.le_of_ble_eq_true rfl, Nat.le_of_ble_eq_true rfl⟩ hS (yA_mono (by have b0 := hS.1; omega)) (fun H locs hB1 oq1 hz1 hS => ?_)
  obtain ⟨hMo, hH⟩ := hB1
  rw [show (3849063166366709578 * 31 + (0 : Int32).toInt64 : Int64) = 8640493715110687222 by decide +kernel] at hMo
  refine lv_iinc (v := 5) (lv' := [(1, .int 5), (0, .ref mo)]) hx hb dX10_digest_344 hl (k := 0) rfl (by decide) (by decide) rfl (fun ls hl => ?_)
  refine lv_goto (tgt := 329) hx hb dX10_digest_347 (by decide) ?_
  refine lv_iload_n hx hb dX10_digest_329 rfl (lv_at hl 0 rfl) ?_
  refine lv_bipush (v := 7) hx hb dX10_digest_330 (by decide) ?_
  refine lv_icmp_ge (tgt := 350) hx hb dX10_digest_332 (by decide) (fun c9 => absurd c9 (by decide)) (fun _ => ?_)
  refine lv_aload_n hx hb dX10_digest_335 rfl (lv_at hl 1 rfl) ?_
  refine lv_aload_n hx hb dX10_digest_336 rfl (lv_at hl 1 rfl) ?_
  refine lv_iload_n hx hb dX10_digest_337 rfl (lv_at hl 0 rfl) ?_
  refine y_cVi (D := (dC, dI)) (cl := vwCl) (tys := yt ca) (nw := zw_nest) (C := RX10) (As := [.int 5]) (rest := [.ref mo]) ⟨hx, hb, hml, hown, hts⟩ (m_X10_massNow l dC dI ca mo H.size ad hI hm 0 8640493715110687222 5 ⟨by decide, by decide⟩) (cwV 1 hts gX10_digest_X10_massNow rfl rfl rfl (by decide +kernel) ⟨Nat.le_of_ble_eq_true rfl, Nat.le_of_ble_eq_true rfl⟩) (va_recv hK (y_one hMo) (ci := 10) rfl (q0 := 0) rfl) ⟨rfl, hMo, hH⟩ hK hN hX zw_nest_ok rfl hl.1 rfl (Nat.le_of_ble_eq_true rfl) dX10_digest_338 ⟨Nat.le_of_ble_eq_true rfl, Nat.le_of_ble_eq_true rfl⟩ hS (yA_mono (by have b0 := hS.1; omega)) (fun H locs hB1 oq1 hz1 hS => ?_)
  obtain ⟨hMo, hH⟩ := hB1
  refine y_cVv (D := (dC, dI)) (cl := vwCl) (tys := yt ca) (nw := zw_nest) (C := RX10) (As := [.int 0]) (rest := []) ⟨hx, hb, hml, hown, hts⟩ (m_X10_add l dC dI ca mo H.size ad hI hm 0 8640493715110687222 0 ) (cwV 1 hts gX10_digest_X10_add rfl rfl rfl (by decide +kernel) ⟨Nat.le_of_ble_eq_true rfl, Nat.le_of_ble_eq_true rfl⟩) (va_recv hK (y_one hMo) (ci := 10) rfl (q0 := 0) rfl) ⟨rfl, hMo, hH⟩ hK hN hX zw_nest_ok rfl hl.1 rfl (Nat.le_of_ble_eq_true rfl) dX10_digest_341 ⟨Nat.le_of_ble_eq_true rfl, Nat.le_of_ble_eq_true rfl⟩ hS (yA_mono (by have b0 := hS.1; omega)) (fun H locs hB1 oq1 hz1 hS => ?_)
  obtain ⟨hMo, hH⟩ := hB1
  rw [show (8640493715110687222 * 31 + (0 : Int32).toInt64 : Int64) = (-8845855937211970358) by decide +kernel] at hMo
  refine lv_iinc (v := 6) (lv' := [(1, .int 6), (0, .ref mo)]) hx hb dX10_digest_344 hl (k := 0) rfl (by decide) (by decide) rfl (fun ls hl => ?_)
  refine lv_goto (tgt := 329) hx hb dX10_digest_347 (by decide) ?_
  refine lv_iload_n hx hb dX10_digest_329 rfl (lv_at hl 0 rfl) ?_
  refine lv_bipush (v := 7) hx hb dX10_digest_330 (by decide) ?_
  refine lv_icmp_ge (tgt := 350) hx hb dX10_digest_332 (by decide) (fun c9 => absurd c9 (by decide)) (fun _ => ?_)
  refine lv_aload_n hx hb dX10_digest_335 rfl (lv_at hl 1 rfl) ?_
  refine lv_aload_n hx hb dX10_digest_336 rfl (lv_at hl 1 rfl) ?_
  refine lv_iload_n hx hb dX10_digest_337 rfl (lv_at hl 0 rfl) ?_
  refine y_cVi (D := (dC, dI)) (cl := vwCl) (tys := yt ca) (nw := zw_nest) (C := RX10) (As := [.int 6]) (rest := [.ref mo]) ⟨hx, hb, hml, hown, hts⟩ (m_X10_massNow l dC dI ca mo H.size ad hI hm 0 (-8845855937211970358) 6 ⟨by decide, by decide⟩) (cwV 1 hts gX10_digest_X10_massNow rfl rfl rfl (by decide +kernel) ⟨Nat.le_of_ble_eq_true rfl, Nat.le_of_ble_eq_true rfl⟩) (va_recv hK (y_one hMo) (ci := 10) rfl (q0 := 0) rfl) ⟨rfl, hMo, hH⟩ hK hN hX zw_nest_ok rfl hl.1 rfl (Nat.le_of_ble_eq_true rfl) dX10_digest_338 ⟨Nat.le_of_ble_eq_true rfl, Nat.le_of_ble_eq_true rfl⟩ hS (yA_mono (by have b0 := hS.1; omega)) (fun H locs hB1 oq1 hz1 hS => ?_)
  obtain ⟨hMo, hH⟩ := hB1
  refine y_cVv (D := (dC, dI)) (cl := vwCl) (tys := yt ca) (nw := zw_nest) (C := RX10) (As := [.int 0]) (rest := []) ⟨hx, hb, hml, hown, hts⟩ (m_X10_add l dC dI ca mo H.size ad hI hm 0 (-8845855937211970358) 0 ) (cwV 1 hts gX10_digest_X10_add rfl rfl rfl (by decide +kernel) ⟨Nat.le_of_ble_eq_true rfl, Nat.le_of_ble_eq_true rfl⟩) (va_recv hK (y_one hMo) (ci := 10) rfl (q0 := 0) rfl) ⟨rfl, hMo, hH⟩ hK hN hX zw_nest_ok rfl hl.1 rfl (Nat.le_of_ble_eq_true rfl) dX10_digest_341 ⟨Nat.le_of_ble_eq_true rfl, Nat.le_of_ble_eq_true rfl⟩ hS (yA_mono (by have b0 := hS.1; omega)) (fun H locs hB1 oq1 hz1 hS => ?_)
  obtain ⟨hMo, hH⟩ := hB1
  rw [show ((-8845855937211970358) * 31 + (0 : Int32).toInt64 : Int64) = 2479627052072193142 by decide +kernel] at hMo
  refine lv_iinc (v := 7) (lv' := [(1, .int 7), (0, .ref mo)]) hx hb dX10_digest_344 hl (k := 0) rfl (by decide) (by decide) rfl (fun ls hl => ?_)
  refine lv_goto (tgt := 329) hx hb dX10_digest_347 (by decide) ?_
  refine lv_iload_n hx hb dX10_digest_329 rfl (lv_at hl 0 rfl) ?_
  refine lv_bipush (v := 7) hx hb dX10_digest_330 (by decide) ?_
  refine lv_icmp_ge (tgt := 350) hx hb dX10_digest_332 (by decide) (fun _ => ?_) (fun c9 => absurd c9 (by decide))
  refine lv_aload_n hx hb dX10_digest_350 rfl (lv_at hl 1 rfl) ?_
  refine lv_aload_n hx hb dX10_digest_351 rfl (lv_at hl 1 rfl) ?_
  refine y_cVi (D := (dC, dI)) (cl := vwCl) (tys := yt ca) (nw := zw_nest) (C := RX10) (As := []) (rest := [.ref mo]) ⟨hx, hb, hml, hown, hts⟩ (m_X10_isClosedNow l dC dI ca mo H.size ad hI hm 0 2479627052072193142  ) (cwV 0 hts gX10_digest_X10_isClosedNow rfl rfl rfl (by decide +kernel) ⟨Nat.le_of_ble_eq_true rfl, Nat.le_of_ble_eq_true rfl⟩) (va_recv hK (y_one hMo) (ci := 10) rfl (q0 := 0) rfl) ⟨rfl, hMo, hH⟩ hK hN hX zw_nest_ok rfl hl.1 rfl (Nat.le_of_ble_eq_true rfl) dX10_digest_352 ⟨Nat.le_of_ble_eq_true rfl, Nat.le_of_ble_eq_true rfl⟩ hS (yA_mono (by have b0 := hS.1; omega)) (fun H locs hB1 oq1 hz1 hS => ?_)
  obtain ⟨hMo, hH⟩ := hB1
  refine lv_if_eq (tgt := 362) hx hb dX10_digest_355 (by decide) (fun c9 => absurd c9 (by decide)) (fun _ => ?_)
  refine lv_iconst (v := 1) hx hb dX10_digest_358 (by decide) ?_
  refine lv_goto (tgt := 363) hx hb dX10_digest_359 (by decide) ?_
  refine y_cVv (D := (dC, dI)) (cl := vwCl) (tys := yt ca) (nw := zw_nest) (C := RX10) (As := [.int 1]) (rest := []) ⟨hx, hb, hml, hown, hts⟩ (m_X10_add l dC dI ca mo H.size ad hI hm 0 2479627052072193142 1 ) (cwV 1 hts gX10_digest_X10_add rfl rfl rfl (by decide +kernel) ⟨Nat.le_of_ble_eq_true rfl, Nat.le_of_ble_eq_true rfl⟩) (va_recv hK (y_one hMo) (ci := 10) rfl (q0 := 0) rfl) ⟨rfl, hMo, hH⟩ hK hN hX zw_nest_ok rfl hl.1 rfl (Nat.le_of_ble_eq_true rfl) dX10_digest_363 ⟨Nat.le_of_ble_eq_true rfl, Nat.le_of_ble_eq_true rfl⟩ hS (yA_mono (by have b0 := hS.1; omega)) (fun H locs hB1 oq1 hz1 hS => ?_)
  obtain ⟨hMo, hH⟩ := hB1
  rw [show (2479627052072193142 * 31 + (1 : Int32).toInt64 : Int64) = 3081462319399780939 by decide +kernel] at hMo
  refine lv_aload_n hx hb dX10_digest_366 rfl (lv_at hl 1 rfl) ?_
  refine lv_aload_n hx hb dX10_digest_367 rfl (lv_at hl 1 rfl) ?_
  refine yo_get (D := (dC, dI)) (cl := vwCl) (C := RX10) (T := TX10) (N := 3) (ci := 10) (v := .ref (ad 0)) hx hb hts hinX10 hown hK hMo rfl 1 (by decide) (hts (.fieldLink RX10 10 "SteamfieldModel" "field" "LSteamfieldModel$Field;") (by decide +kernel)) (fun _ h9 => h9) rfl dX10_digest_368 ?_
  obtain ⟨c1, ec1⟩ : ∃ z, z = H.size := ⟨_, rfl⟩
  have hg1 : sz ≤ c1 := by have b0 := hS.1; omega
  refine y_cVr (D := (dC, dI)) (cl := vwCl) (tys := yt ca) (nw := zw_nest) (C := RX9) (As := []) (rest := [.ref mo]) ⟨hx, hb, hml, hown, hts⟩ (m_X9_copy l dC dI ca ad hI c1  ) (cwV 0 hts gX10_digest_X9_copy rfl rfl rfl (by decide +kernel) ⟨Nat.le_of_ble_eq_true rfl, Nat.le_of_ble_eq_true rfl⟩) (z_recv (ci := 9) (i := 0) hK hH yk_0 (by decide) rfl) ⟨ec1.symm, hH⟩ hK hN hX zw_nest_ok rfl hl.1 rfl (Nat.le_of_ble_eq_true rfl) dX10_digest_371 ⟨Nat.le_of_ble_eq_true rfl, Nat.le_of_ble_eq_true rfl⟩ hS (fun q h => Or.inr (Or.inr (Nat.le_trans hg1 h))) (fun H locs hB1 oq1 hz1 hS => ?_)
  have hMo := va_at.kept hMo (oq1 _ (va_at.lt hMo) (by have b9 := va_at.lt hMo; show ¬ (c1 ≤ _); omega))
  obtain ⟨hH, hG1⟩ := hB1
  have hI1 : z_I yd (yad c1 (c1 + 1)) := yad_I (Nat.lt_succ_self _)
  have hga1 : ∀ i, c1 ≤ (yad c1 (c1 + 1)) i := fun i => yad_ge i
  refine lv_iconst (v := 4) hx hb dX10_digest_374 (by decide) ?_
  refine y_cVi (D := (dC, dI)) (cl := vwCl) (tys := yt ca) (nw := zw_nest) (C := RX9) (As := [.int 4]) (rest := [.ref mo]) ⟨hx, hb, hml, hown, hts⟩ (m_X9_run l dC dI ca (yad c1 (c1 + 1)) hI1 0 (by decide) 4 (by decide)) (cwV 1 hts gX10_digest_X9_run rfl rfl rfl (by decide +kernel) ⟨Nat.le_of_ble_eq_true rfl, Nat.le_of_ble_eq_true rfl⟩) (z_recv (ci := 9) (i := 0) hK hG1 yk_0 (by decide) rfl) hG1 hK hN hX zw_nest_ok rfl hl.1 rfl (Nat.le_of_ble_eq_true rfl) dX10_digest_375 ⟨Nat.le_of_ble_eq_true rfl, Nat.le_of_ble_eq_true rfl⟩ hS (by rintro q ⟨i, _, rfl⟩; exact Or.inr (Or.inr (Nat.le_trans hg1 (hga1 i)))) (fun H locs hB1 oq1 hz1 hS => ?_)
  have hH := hH.kept (fun i hi => oq1 _ (hH.lt hi) (by rintro ⟨j, hj, e9⟩; have b0 := hba i hi; have b1 := hga1 j; have b2 := hg1; omega))
  have hMo := va_at.kept hMo (oq1 _ (va_at.lt hMo) (by rintro ⟨j, hj, e9⟩; have b0 := hbm; have b1 := hga1 j; have b2 := hg1; omega))
  have hG1 : z_H (dC, dI) vwCl yf ca yd (yad c1 (c1 + 1)) (yM (0 + 4)) H := hB1
  refine y_cVv (D := (dC, dI)) (cl := vwCl) (tys := yt ca) (nw := zw_nest) (C := RX10) (As := [.int 0]) (rest := []) ⟨hx, hb, hml, hown, hts⟩ (m_X10_add l dC dI ca mo H.size ad hI hm 0 3081462319399780939 0 ) (cwV 1 hts gX10_digest_X10_add rfl rfl rfl (by decide +kernel) ⟨Nat.le_of_ble_eq_true rfl, Nat.le_of_ble_eq_true rfl⟩) (va_recv hK (y_one hMo) (ci := 10) rfl (q0 := 0) rfl) ⟨rfl, hMo, hH⟩ hK hN hX zw_nest_ok rfl hl.1 rfl (Nat.le_of_ble_eq_true rfl) dX10_digest_378 ⟨Nat.le_of_ble_eq_true rfl, Nat.le_of_ble_eq_true rfl⟩ hS (yA_mono (by have b0 := hS.1; omega)) (fun H locs hB1 oq1 hz1 hS => ?_)
  obtain ⟨hMo, hH⟩ := hB1
  rw [show (3081462319399780939 * 31 + (0 : Int32).toInt64 : Int64) = 3291611532845451029 by decide +kernel] at hMo
  refine lv_aload_n hx hb dX10_digest_381 rfl (lv_at hl 1 rfl) ?_
  refine lv_aload_n hx hb dX10_digest_382 rfl (lv_at hl 1 rfl) ?_
  refine lv_iconst (v := 3) hx hb dX10_digest_383 (by decide) ?_
  refine y_cVi (D := (dC, dI)) (cl := vwCl) (tys := yt ca) (nw := zw_nest) (C := RX10) (As := [.int 3]) (rest := [.ref mo]) ⟨hx, hb, hml, hown, hts⟩ (m_X10_bestNow l dC dI ca mo H.size ad hI hm 0 3291611532845451029 3 (by decide)) (cwV 1 hts gX10_digest_X10_bestNow rfl rfl rfl (by decide +kernel) ⟨Nat.le_of_ble_eq_true rfl, Nat.le_of_ble_eq_true rfl⟩) (va_recv hK (y_one hMo) (ci := 10) rfl (q0 := 0) rfl) ⟨rfl, hMo, hH⟩ hK hN hX zw_nest_ok rfl hl.1 rfl (Nat.le_of_ble_eq_true rfl) dX10_digest_384 ⟨Nat.le_of_ble_eq_true rfl, Nat.le_of_ble_eq_true rfl⟩ hS (yA_mono (by have b0 := hS.1; omega)) (fun H locs hB1 oq1 hz1 hS => ?_)
  obtain ⟨hMo, hH⟩ := hB1
  refine y_cVv (D := (dC, dI)) (cl := vwCl) (tys := yt ca) (nw := zw_nest) (C := RX10) (As := [.int 0]) (rest := []) ⟨hx, hb, hml, hown, hts⟩ (m_X10_add l dC dI ca mo H.size ad hI hm 0 3291611532845451029 0 ) (cwV 1 hts gX10_digest_X10_add rfl rfl rfl (by decide +kernel) ⟨Nat.le_of_ble_eq_true rfl, Nat.le_of_ble_eq_true rfl⟩) (va_recv hK (y_one hMo) (ci := 10) rfl (q0 := 0) rfl) ⟨rfl, hMo, hH⟩ hK hN hX zw_nest_ok rfl hl.1 rfl (Nat.le_of_ble_eq_true rfl) dX10_digest_387 ⟨Nat.le_of_ble_eq_true rfl, Nat.le_of_ble_eq_true rfl⟩ hS (yA_mono (by have b0 := hS.1; omega)) (fun H locs hB1 oq1 hz1 hS => ?_)
  obtain ⟨hMo, hH⟩ := hB1
  rw [show (3291611532845451029 * 31 + (0 : Int32).toInt64 : Int64) = (-8640506924048327797) by decide +kernel] at hMo
  refine lv_aload_n hx hb dX10_digest_390 rfl (lv_at hl 1 rfl) ?_
  refine yo_get (D := (dC, dI)) (cl := vwCl) (C := RX10) (T := TX10) (N := 3) (ci := 10) (v := .long (-8640506924048327797)) hx hb hts hinX10 hown hK hMo rfl 2 (by decide) (hts (.fieldLink RX10 173 "SteamfieldModel" "sum" "J") (by decide +kernel)) (fun _ h9 => h9) rfl dX10_digest_391 ?_
  refine W.widen (k := 724) (n := 4585) (Nat.le_of_ble_eq_true rfl) (Nat.le_of_ble_eq_true rfl) ?_
  exact W.lret (v := (-8640506924048327797)) hx hb hr (fun t ht hW => ⟨⟨(-8640506924048327797), (), rfl, rfl, z_to (B := (fun H => yMo dC dI mo 0 (ad 0) (-8640506924048327797) H ∧ yW dC dI ca ad (yM 0) H)) ht ⟨hMo, hH⟩⟩, hS.F ht⟩) hS.2.2 dX10_digest_394
