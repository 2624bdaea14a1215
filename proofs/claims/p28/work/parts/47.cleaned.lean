theorem q_oo (M N : zM) : rX8_ofOwner M N 0 0 = M 8 0 ∧ rX8_ofOwner M N 1 0 = M 8 1 := ⟨rfl, rfl⟩
theorem q_minp {a b p : Int32} (h : a < p ∨ b < p) : ¬ p ≤ (if b < a then b else a) := by
  rw [Int32.lt_iff_toInt_lt, Int32.lt_iff_toInt_lt] at h
  by_cases c : b < a
  · rw [if_pos c, Int32.le_iff_toInt_le]
    rw [Int32.lt_iff_toInt_lt] at c
    omega
  · rw [if_neg c, Int32.le_iff_toInt_le]
    rw [Int32.lt_iff_toInt_lt] at c
    omega
theorem zLi.poor {nb nw ns t : Nat} {td si pw nd : Int32} {M : zM} (h : zLi nb nw ns t td si pw nd M) {k : Nat} (hk : k < nw) {a0 : Int32} (e0 : a0 = nI k) (hc : M 8 (M (20 + (M (60 + a0.toNatClampNeg) 0).toNatClampNeg) 2).toNatClampNeg < 5 * M (60 + a0.toNatClampNeg) 3) : M 8 0 < 5 * M (60 + k) 3 ∨ M 8 1 < 5 * M (60 + k) 3 := by
  have l6 := h.nw6
  have l8 := h.nb8
  obtain ⟨b, hbb, hb⟩ := h.blk hk
  subst e0
  rw [q_nIn (by omega), hb, q_nIn (by omega)] at hc
  obtain ⟨o, ho, ho31, eo⟩ := h.ok.owner (f := b) (by omega)
  rw [eo, q_nIn ho31] at hc
  rcases (show o = 0 ∨ o = 1 by omega) with e | e <;> subst e
  · exact Or.inl hc
  · exact Or.inr hc
set_option maxHeartbeats 4000000 in
set_option maxRecDepth 100000 in
theorem m_L_isCleaned (l : Launch) (hl9 : l.stackTraces = false) (dC : Nat → ClassId) (dI : Nat → Nat → Nat) (ca : Nat → ClassId) (sf : Nat) (ad : Nat → Nat) (hI : z_I zd ad) (ad2 : Nat → Nat) (hI2 : z_I zd ad2) (hq : zSep sf ad ad2) (M : zM) (N : zM) (nb nw ns t : Nat) (td si pw nd : Int32) (a0 : Int32) (k : Nat) (hLi : zLi nb nw ns t td si pw nd M) (hk : k < nw) (e0 : a0 = nI k) : Met l yL_isCleaned wsL_isCleaned ({ frames := 7, cells := 1, slots := 6, locals := 107 }) (z_Pe (dC, dI) vwCl (zt ca) zw_nest [.ref sf, .int a0] (zA2 ad ad2) (fun H => zT dC dI ca sf (ad 0) (ad2 0) H ∧ zW dC dI ca ad M H ∧ zW dC dI ca ad2 N H)) (va_Qi (fun (r : Int32) (M' : zM) => r = 1 ∧ zLi nb nw ns (t + 1) td si pw nd M') (fun M' t => (fun M' H => zT dC dI ca sf (ad 0) (ad2 0) H ∧ zW dC dI ca ad M' H ∧ zW dC dI ca ad2 N H) M' t.heap) (zA2 ad ad2)) 1 6 (zA2 ad ad2) := by
  refine va_MetW (cc := cL_isCleaned) (maxL := 5) (ret := (some .boolean)) (by decide) rfl ?_
  intro p e s m args below meth c s₁ B9 hml hv
  obtain ⟨rfl, ⟨hT, hH, hG⟩, hK, hN, hEx⟩ := hv
  have hx := B9.exec
  have hb := B9.bytes
  have hr := B9.returns
  have hts := atoms_spec (ws := wsL_isCleaned) B9.pre
  have hown : s.vm.findClass RL = some m.cls := findClass_of_methodNamed B9.named
  have hlocks := B9.notSynchronized
  have htab : c.exceptionTable.toList = [] ++ ⟨21, 74, 75, 87⟩ :: [] := vx_table (x := yL_isCleaned) B9 (hts _ List.mem_cons_self)
  have hS : va_S (zA2 ad ad2) s.heap s.heap [] := va_S.rf
  have hOk0 : z_Ok M := hLi.ok
  have hOk := hOk0
  have hk6 : k < 6 := Nat.lt_of_lt_of_le hk hLi.nw6
  have h_a0 : z_ix a0 (zc12 M) := by rw [hLi.c12, e0]; exact q_ixk hk (Nat.lt_of_le_of_lt hLi.nw6 (by decide))
  have hFx : z_Fx M M := z_Fx.rf
  have hT : zT dC dI ca sf (ad 0) (ad2 0) s.heap := hT
  have hH : zW dC dI ca ad M s.heap := hH
  have hG : zW dC dI ca ad2 N s.heap := hG
  have hl := lv_entry ([.ref sf, .int a0]) (n := 5) (Nat.le_of_ble_eq_true rfl)
  rw [lg_entry_eq]
  generalize (lg_sl ([.ref sf, .int a0]) ++ List.replicate (5 - (lg_sl ([.ref sf, .int a0])).length) Slot.unset).toArray = ls at hl ⊢
  have hl : lv_has ls 5 [(0, .ref sf), (1, .int a0)] := hl
  by_cases h_c : M 8 (M (20 + (M (60 + a0.toNatClampNeg) 0).toNatClampNeg) 2).toNatClampNeg < 5 * M (60 + a0.toNatClampNeg) 3
  · refine lv_aload_n hx hb dL_isCleaned_0 rfl (lv_at hl 0 rfl) ?_
    refine lv_iconst (v := 0) hx hb dL_isCleaned_1 (by decide) ?_
    refine lv_iconst (v := 0) hx hb dL_isCleaned_2 (by decide) ?_
    refine z_cVi (D := (dC, dI)) (cl := vwCl) (tys := zt ca) (nw := zw_nest) (C := RX8) (As := [.int 0, .int 0]) (rest := []) ⟨hx, hb, hml, hown, hts⟩ (m_X8_ofOwner l dC dI ca sf ad hI ad2 hI2 hq M N 0 0 hOk ⟨0, by decide, by decide, rfl⟩ ⟨by decide, by decide⟩) (cwV 2 hts gL_isCleaned_X8_ofOwner rfl rfl rfl (by decide +kernel) ⟨Nat.le_of_ble_eq_true rfl, Nat.le_of_ble_eq_true rfl⟩) (z_recv (ci := 8) (i := 0) hK hT rfl (by decide) rfl) ⟨hT, hH, hG⟩ hK hN zw_nest_ok rfl hl.1 rfl (Nat.le_of_ble_eq_true rfl) dL_isCleaned_3 ⟨Nat.le_of_ble_eq_true rfl, Nat.le_of_ble_eq_true rfl⟩ hS (fun _ h => h) (fun H locs hB1 oq1 hz1 hS => ?_)
    obtain ⟨hT, hH, hG⟩ := hB1
    refine lv_topi (fun x1 ex1 => ?_)
    refine lv_aload_n hx hb dL_isCleaned_6 rfl (lv_at hl 0 rfl) ?_
    refine lv_iconst (v := 1) hx hb dL_isCleaned_7 (by decide) ?_
    refine lv_iconst (v := 0) hx hb dL_isCleaned_8 (by decide) ?_
    refine z_cVi (D := (dC, dI)) (cl := vwCl) (tys := zt ca) (nw := zw_nest) (C := RX8) (As := [.int 1, .int 0]) (rest := [.int x1]) ⟨hx, hb, hml, hown, hts⟩ (m_X8_ofOwner l dC dI ca sf ad hI ad2 hI2 hq M N 1 0 hOk ⟨1, by decide, by decide, rfl⟩ ⟨by decide, by decide⟩) (cwV 2 hts gL_isCleaned_X8_ofOwner rfl rfl rfl (by decide +kernel) ⟨Nat.le_of_ble_eq_true rfl, Nat.le_of_ble_eq_true rfl⟩) (z_recv (ci := 8) (i := 0) hK hT rfl (by decide) rfl) ⟨hT, hH, hG⟩ hK hN zw_nest_ok rfl hl.1 rfl (Nat.le_of_ble_eq_true rfl) dL_isCleaned_9 ⟨Nat.le_of_ble_eq_true rfl, Nat.le_of_ble_eq_true rfl⟩ hS (fun _ h => h) (fun H locs hB1 oq1 hz1 hS => ?_)
    obtain ⟨hT, hH, hG⟩ := hB1
    refine lv_topi (fun x2 ex2 => ?_)
    refine lv_iadd hx hb dL_isCleaned_12 ?_
    refine lv_topi (fun x3 ex3 => ?_)
    refine lv_istore_n (lv' := [(2, .int x3), (0, .ref sf), (1, .int a0)]) hx hb dL_isCleaned_13 rfl hl (by decide) rfl (fun ls hl => ?_)
    refine lv_aload_n hx hb dL_isCleaned_14 rfl (lv_at hl 1 rfl) ?_
    refine lv_iload_n hx hb dL_isCleaned_15 rfl (lv_at hl 2 rfl) ?_
    refine lv_iconst (v := 3) hx hb dL_isCleaned_16 (by decide) ?_
    refine z_cVi (D := (dC, dI)) (cl := vwCl) (tys := zt ca) (nw := zw_nest) (C := RX8) (As := [.int a0, .int 3]) (rest := []) ⟨hx, hb, hml, hown, hts⟩ (m_X8_ofWell l dC dI ca sf ad hI ad2 hI2 hq M N a0 3 hOk h_a0 ⟨by decide, by decide⟩) (cwV 2 hts gL_isCleaned_X8_ofWell rfl rfl rfl (by decide +kernel) ⟨Nat.le_of_ble_eq_true rfl, Nat.le_of_ble_eq_true rfl⟩) (z_recv (ci := 8) (i := 0) hK hT rfl (by decide) rfl) ⟨hT, hH, hG⟩ hK hN zw_nest_ok rfl hl.1 rfl (Nat.le_of_ble_eq_true rfl) dL_isCleaned_17 ⟨Nat.le_of_ble_eq_true rfl, Nat.le_of_ble_eq_true rfl⟩ hS (fun _ h => h) (fun H locs hB1 oq1 hz1 hS => ?_)
    obtain ⟨hT, hH, hG⟩ := hB1
    refine lv_topi (fun x4 ex4 => ?_)
    refine lv_istore_n (lv' := [(3, .int x4), (2, .int x3), (0, .ref sf), (1, .int a0)]) hx hb dL_isCleaned_20 rfl hl (by decide) rfl (fun ls hl => ?_)
    refine lv_aload_n hx hb dL_isCleaned_21 rfl (lv_at hl 2 rfl) ?_
    refine lv_iload_n hx hb dL_isCleaned_22 rfl (lv_at hl 3 rfl) ?_
    refine z_cVx (D := (dC, dI)) (cl := vwCl) (tys := zt ca) (nw := zw_nest) (mc := 1) (ms := 6) (B' := fun H => zT dC dI ca sf (ad 0) (ad2 0) H ∧ zW dC dI ca ad M H ∧ zW dC dI ca ad2 N H) (C := RX8) (As := [.int a0]) (rest := []) ⟨hx, hb, hml, hown, hts⟩ (m_X8_cleanx l hl9 dC dI ca sf ad hI ad2 hI2 hq M N a0 hOk h_a0 h_c) (cwV 1 hts gL_isCleaned_X8_clean rfl rfl rfl (by decide +kernel) ⟨Nat.le_of_ble_eq_true rfl, Nat.le_of_ble_eq_true rfl⟩) (z_recv (ci := 8) (i := 0) hK hT rfl (by decide) rfl) ⟨hT, hH, hG⟩ hK hN hEx zw_nest_ok rfl hl.1 rfl (Nat.le_of_ble_eq_true rfl) dL_isCleaned_23 ⟨Nat.le_of_ble_eq_true rfl, Nat.le_of_ble_eq_true rfl⟩ hS (fun _ h => h) (fun ce q9 H locs hB1 hS hce hcv hcl => ?_)
    obtain ⟨hT, hH, hG⟩ := hB1
    refine vx_catch (own := RL) (name := zISE) (E := zISE) hown [] ⟨21, 74, 75, 87⟩ [] htab (fun z hz => absurd hz List.not_mem_nil) (by decide) (by decide) (hts (.classLink RL 87 zISE) (by decide +kernel)) (va_Nw.use rfl (hEx.2.2.2 _ (by decide +kernel))) hce hcv hcl ?_
    refine lv_astore (lv' := [(4, .ref q9), (3, .int x4), (2, .int x3), (0, .ref sf), (1, .int a0)]) hx hb dL_isCleaned_75 hl (by decide) rfl (fun ls hl => ?_)
    refine lv_aload_n hx hb dL_isCleaned_77 rfl (lv_at hl 3 rfl) ?_
    refine lv_iconst (v := 0) hx hb dL_isCleaned_78 (by decide) ?_
    refine lv_iconst (v := 0) hx hb dL_isCleaned_79 (by decide) ?_
    refine z_cVi (D := (dC, dI)) (cl := vwCl) (tys := zt ca) (nw := zw_nest) (C := RX8) (As := [.int 0, .int 0]) (rest := []) ⟨hx, hb, hml, hown, hts⟩ (m_X8_ofOwner l dC dI ca sf ad hI ad2 hI2 hq M N 0 0 hOk ⟨0, by decide, by decide, rfl⟩ ⟨by decide, by decide⟩) (cwV 2 hts gL_isCleaned_X8_ofOwner rfl rfl rfl (by decide +kernel) ⟨Nat.le_of_ble_eq_true rfl, Nat.le_of_ble_eq_true rfl⟩) (z_recv (ci := 8) (i := 0) hK hT rfl (by decide) rfl) ⟨hT, hH, hG⟩ hK hN zw_nest_ok rfl hl.1 rfl (Nat.le_of_ble_eq_true rfl) dL_isCleaned_80 ⟨Nat.le_of_ble_eq_true rfl, Nat.le_of_ble_eq_true rfl⟩ hS (fun _ h => h) (fun H locs hB1 oq1 hz1 hS => ?_)
    obtain ⟨hT, hH, hG⟩ := hB1
    refine lv_topi (fun x5 ex5 => ?_)
    refine lv_aload_n hx hb dL_isCleaned_83 rfl (lv_at hl 3 rfl) ?_
    refine lv_iconst (v := 1) hx hb dL_isCleaned_84 (by decide) ?_
    refine lv_iconst (v := 0) hx hb dL_isCleaned_85 (by decide) ?_
    refine z_cVi (D := (dC, dI)) (cl := vwCl) (tys := zt ca) (nw := zw_nest) (C := RX8) (As := [.int 1, .int 0]) (rest := [.int x5]) ⟨hx, hb, hml, hown, hts⟩ (m_X8_ofOwner l dC dI ca sf ad hI ad2 hI2 hq M N 1 0 hOk ⟨1, by decide, by decide, rfl⟩ ⟨by decide, by decide⟩) (cwV 2 hts gL_isCleaned_X8_ofOwner rfl rfl rfl (by decide +kernel) ⟨Nat.le_of_ble_eq_true rfl, Nat.le_of_ble_eq_true rfl⟩) (z_recv (ci := 8) (i := 0) hK hT rfl (by decide) rfl) ⟨hT, hH, hG⟩ hK hN zw_nest_ok rfl hl.1 rfl (Nat.le_of_ble_eq_true rfl) dL_isCleaned_86 ⟨Nat.le_of_ble_eq_true rfl, Nat.le_of_ble_eq_true rfl⟩ hS (fun _ h => h) (fun H locs hB1 oq1 hz1 hS => ?_)
    obtain ⟨hT, hH, hG⟩ := hB1
    refine lv_topi (fun x6 ex6 => ?_)
    refine va_mmin hx hb (hml.trans hl.1.symm) hown (hts (.methodLink RL 89 Lib.Math.min.name) (by decide +kernel)) (hts (.static Lib.Math.min.name) (by decide +kernel)) (hts (.initialized "java/lang/Math") (by decide +kernel)) (hts (.code Lib.Math.min.name Lib.Math.min.code 2 (some .int)) (by decide +kernel)) (Nat.le_of_ble_eq_true rfl) (Nat.le_of_ble_eq_true rfl) (Nat.le_of_ble_eq_true rfl) (Nat.le_of_ble_eq_true rfl) dL_isCleaned_89 ?_
    refine lv_topi (fun x7 ex7 => ?_)
    refine lv_iconst (v := 5) hx hb dL_isCleaned_92 (by decide) ?_
    refine lv_iload_n hx hb dL_isCleaned_93 rfl (lv_at hl 1 rfl) ?_
    refine lv_imul hx hb dL_isCleaned_94 ?_
    refine lv_topi (fun x8 ex8 => ?_)
    refine lv_icmp_ge (tgt := 112) hx hb dL_isCleaned_95 (by decide) (fun c9 => absurd c9 (by subst ex8; subst ex7; subst ex6; subst ex5; subst ex4; subst ex3; subst ex2; subst ex1; rw [(q_ow (M := M) (N := N) e0 hk6).2.2.2.1]; exact q_minp (hLi.poor hk e0 h_c))) (fun c9 => ?_)
    refine lv_aload_n hx hb dL_isCleaned_98 rfl (lv_at hl 3 rfl) ?_
    refine lv_iload_n hx hb dL_isCleaned_99 rfl (lv_at hl 4 rfl) ?_
    refine lv_iconst (v := 3) hx hb dL_isCleaned_100 (by decide) ?_
    refine z_cVi (D := (dC, dI)) (cl := vwCl) (tys := zt ca) (nw := zw_nest) (C := RX8) (As := [.int a0, .int 3]) (rest := []) ⟨hx, hb, hml, hown, hts⟩ (m_X8_ofWell l dC dI ca sf ad hI ad2 hI2 hq M N a0 3 hOk h_a0 ⟨by decide, by decide⟩) (cwV 2 hts gL_isCleaned_X8_ofWell rfl rfl rfl (by decide +kernel) ⟨Nat.le_of_ble_eq_true rfl, Nat.le_of_ble_eq_true rfl⟩) (z_recv (ci := 8) (i := 0) hK hT rfl (by decide) rfl) ⟨hT, hH, hG⟩ hK hN zw_nest_ok rfl hl.1 rfl (Nat.le_of_ble_eq_true rfl) dL_isCleaned_101 ⟨Nat.le_of_ble_eq_true rfl, Nat.le_of_ble_eq_true rfl⟩ hS (fun _ h => h) (fun H locs hB1 oq1 hz1 hS => ?_)
    obtain ⟨hT, hH, hG⟩ := hB1
    refine lv_topi (fun x10 ex10 => ?_)
    refine lv_iload_n hx hb dL_isCleaned_104 rfl (lv_at hl 1 rfl) ?_
    refine lv_icmp_ne (tgt := 112) hx hb dL_isCleaned_105 (by decide) (fun c11 => absurd c11 (not_not_intro (by rw [ex10, ex4]))) (fun c11 => ?_)
    refine lv_iconst (v := 1) hx hb dL_isCleaned_108 (by decide) ?_
    refine lv_goto (tgt := 113) hx hb dL_isCleaned_109 (by decide) ?_
    exact W.zret (v := 1) (ty := .boolean) hx hb hr (by decide) (fun t' ht hW => ⟨⟨1, M, rfl, ⟨rfl, hLi.next⟩, z_to (B := fun H => (fun M' H => zT dC dI ca sf (ad 0) (ad2 0) H ∧ zW dC dI ca ad M' H ∧ zW dC dI ca ad2 N H) M H) ht ⟨hT, hH, hG⟩⟩, hS.F ht⟩) hS.2.2 dL_isCleaned_113
  · refine W.widen (k := 1) (n := 6) (Nat.zero_le _) (Nat.zero_le _) ?_
    refine lv_aload_n hx hb dL_isCleaned_0 rfl (lv_at hl 0 rfl) ?_
    refine lv_iconst (v := 0) hx hb dL_isCleaned_1 (by decide) ?_
    refine lv_iconst (v := 0) hx hb dL_isCleaned_2 (by decide) ?_
    refine z_cVi (D := (dC, dI)) (cl := vwCl) (tys := zt ca) (nw := zw_nest) (C := RX8) (As := [.int 0, .int 0]) (rest := []) ⟨hx, hb, hml, hown, hts⟩ (m_X8_ofOwner l dC dI ca sf ad hI ad2 hI2 hq M N 0 0 hOk ⟨0, by decide, by decide, rfl⟩ ⟨by decide, by decide⟩) (cwV 2 hts gL_isCleaned_X8_ofOwner rfl rfl rfl (by decide +kernel) ⟨Nat.le_of_ble_eq_true rfl, Nat.le_of_ble_eq_true rfl⟩) (z_recv (ci := 8) (i := 0) hK hT rfl (by decide) rfl) ⟨hT, hH, hG⟩ hK hN zw_nest_ok rfl hl.1 rfl (Nat.le_of_ble_eq_true rfl) dL_isCleaned_3 ⟨Nat.le_refl _, Nat.le_refl _⟩ hS (fun _ h => h) (fun H locs hB1 oq1 hz1 hS => ?_)
    obtain ⟨hT, hH, hG⟩ := hB1
    refine lv_topi (fun x1 ex1 => ?_)
    refine lv_aload_n hx hb dL_isCleaned_6 rfl (lv_at hl 0 rfl) ?_
    refine lv_iconst (v := 1) hx hb dL_isCleaned_7 (by decide) ?_
    refine lv_iconst (v := 0) hx hb dL_isCleaned_8 (by decide) ?_
    refine z_cVi (D := (dC, dI)) (cl := vwCl) (tys := zt ca) (nw := zw_nest) (C := RX8) (As := [.int 1, .int 0]) (rest := [.int x1]) ⟨hx, hb, hml, hown, hts⟩ (m_X8_ofOwner l dC dI ca sf ad hI ad2 hI2 hq M N 1 0 hOk ⟨1, by decide, by decide, rfl⟩ ⟨by decide, by decide⟩) (cwV 2 hts gL_isCleaned_X8_ofOwner rfl rfl rfl (by decide +kernel) ⟨Nat.le_of_ble_eq_true rfl, Nat.le_of_ble_eq_true rfl⟩) (z_recv (ci := 8) (i := 0) hK hT rfl (by decide) rfl) ⟨hT, hH, hG⟩ hK hN zw_nest_ok rfl hl.1 rfl (Nat.le_of_ble_eq_true rfl) dL_isCleaned_9 ⟨Nat.le_refl _, Nat.le_refl _⟩ hS (fun _ h => h) (fun H locs hB1 oq1 hz1 hS => ?_)
    obtain ⟨hT, hH, hG⟩ := hB1
    refine lv_topi (fun x2 ex2 => ?_)
    refine lv_iadd hx hb dL_isCleaned_12 ?_
    refine lv_topi (fun x3 ex3 => ?_)
    refine lv_istore_n (lv' := [(2, .int x3), (0, .ref sf), (1, .int a0)]) hx hb dL_isCleaned_13 rfl hl (by decide) rfl (fun ls hl => ?_)
    refine lv_aload_n hx hb dL_isCleaned_14 rfl (lv_at hl 1 rfl) ?_
    refine lv_iload_n hx hb dL_isCleaned_15 rfl (lv_at hl 2 rfl) ?_
    refine lv_iconst (v := 3) hx hb dL_isCleaned_16 (by decide) ?_
    refine z_cVi (D := (dC, dI)) (cl := vwCl) (tys := zt ca) (nw := zw_nest) (C := RX8) (As := [.int a0, .int 3]) (rest := []) ⟨hx, hb, hml, hown, hts⟩ (m_X8_ofWell l dC dI ca sf ad hI ad2 hI2 hq M N a0 3 hOk h_a0 ⟨by decide, by decide⟩) (cwV 2 hts gL_isCleaned_X8_ofWell rfl rfl rfl (by decide +kernel) ⟨Nat.le_of_ble_eq_true rfl, Nat.le_of_ble_eq_true rfl⟩) (z_recv (ci := 8) (i := 0) hK hT rfl (by decide) rfl) ⟨hT, hH, hG⟩ hK hN zw_nest_ok rfl hl.1 rfl (Nat.le_of_ble_eq_true rfl) dL_isCleaned_17 ⟨Nat.le_refl _, Nat.le_refl _⟩ hS (fun _ h => h) (fun H locs hB1 oq1 hz1 hS => ?_)
    obtain ⟨hT, hH, hG⟩ := hB1
    refine lv_topi (fun x4 ex4 => ?_)
    refine lv_istore_n (lv' := [(3, .int x4), (2, .int x3), (0, .ref sf), (1, .int a0)]) hx hb dL_isCleaned_20 rfl hl (by decide) rfl (fun ls hl => ?_)
    refine lv_aload_n hx hb dL_isCleaned_21 rfl (lv_at hl 2 rfl) ?_
    refine lv_iload_n hx hb dL_isCleaned_22 rfl (lv_at hl 3 rfl) ?_
    refine z_cVi (D := (dC, dI)) (cl := vwCl) (tys := zt ca) (nw := zw_nest) (C := RX8) (As := [.int a0]) (rest := []) ⟨hx, hb, hml, hown, hts⟩ (m_X8_clean l dC dI ca sf ad hI ad2 hI2 hq M N a0 hOk h_a0 h_c) (cwV 1 hts gL_isCleaned_X8_clean rfl rfl rfl (by decide +kernel) ⟨Nat.le_of_ble_eq_true rfl, Nat.le_of_ble_eq_true rfl⟩) (z_recv (ci := 8) (i := 0) hK hT rfl (by decide) rfl) ⟨hT, hH, hG⟩ hK hN zw_nest_ok rfl hl.1 rfl (Nat.le_of_ble_eq_true rfl) dL_isCleaned_23 ⟨Nat.le_refl _, Nat.le_refl _⟩ hS (fun _ h => h) (fun H locs hB1 oq1 hz1 hS => ?_)
    obtain ⟨hT, hH, hG, hFc⟩ := hB1
    refine lv_topi (fun x5 ex5 => ?_)
    obtain ⟨M6, hM6⟩ : ∃ z : zM, z = fX8_clean M N a0 := ⟨_, rfl⟩
    have hH : z_H (dC, dI) vwCl zf ca zd ad M6 H := by rw [hM6]; exact hH
    have hFx : z_Fx M M6 := hFx.tr (by rw [hM6]; exact hFc)
    have hOk : z_Ok M6 := hOk0.fx hFx
    have hC := hLi.clean N hk e0 (by rw [← hM6]; exact hOk)
    rw [← hM6] at hC
    refine lv_iload_n hx hb dL_isCleaned_26 rfl (lv_at hl 0 rfl) ?_
    refine lv_icmp_ne (tgt := 73) hx hb dL_isCleaned_27 (by decide) (fun c7 => absurd c7 (not_not_intro (by rw [ex5, ex4, (q_ow (M := M) (N := N) e0 hk6).2.2.2.1]; exact hC.2.1))) (fun c7 => ?_)
    refine lv_aload_n hx hb dL_isCleaned_30 rfl (lv_at hl 2 rfl) ?_
    refine lv_iload_n hx hb dL_isCleaned_31 rfl (lv_at hl 3 rfl) ?_
    refine lv_iconst (v := 3) hx hb dL_isCleaned_32 (by decide) ?_
    refine z_cVi (D := (dC, dI)) (cl := vwCl) (tys := zt ca) (nw := zw_nest) (C := RX8) (As := [.int a0, .int 3]) (rest := []) ⟨hx, hb, hml, hown, hts⟩ (m_X8_ofWell l dC dI ca sf ad hI ad2 hI2 hq M6 N a0 3 hOk (by unfold zc12; rw [hFx.c12]; exact h_a0) ⟨by decide, by decide⟩) (cwV 2 hts gL_isCleaned_X8_ofWell rfl rfl rfl (by decide +kernel) ⟨Nat.le_of_ble_eq_true rfl, Nat.le_of_ble_eq_true rfl⟩) (z_recv (ci := 8) (i := 0) hK hT rfl (by decide) rfl) ⟨hT, hH, hG⟩ hK hN zw_nest_ok rfl hl.1 rfl (Nat.le_of_ble_eq_true rfl) dL_isCleaned_33 ⟨Nat.le_refl _, Nat.le_refl _⟩ hS (fun _ h => h) (fun H locs hB1 oq1 hz1 hS => ?_)
    obtain ⟨hT, hH, hG⟩ := hB1
    refine lv_topi (fun x8 ex8 => ?_)
    refine lv_if_ne (tgt := 73) hx hb dL_isCleaned_36 (by decide) (fun c9 => absurd c9 (not_not_intro (by rw [ex8, (q_ow (M := M6) (N := N) e0 hk6).2.2.2.1]; exact hC.2.2.1))) (fun c9 => ?_)
    refine lv_aload_n hx hb dL_isCleaned_39 rfl (lv_at hl 2 rfl) ?_
    refine lv_iload_n hx hb dL_isCleaned_40 rfl (lv_at hl 3 rfl) ?_
    refine lv_iconst (v := 4) hx hb dL_isCleaned_41 (by decide) ?_
    refine z_cVi (D := (dC, dI)) (cl := vwCl) (tys := zt ca) (nw := zw_nest) (C := RX8) (As := [.int a0, .int 4]) (rest := []) ⟨hx, hb, hml, hown, hts⟩ (m_X8_ofWell l dC dI ca sf ad hI ad2 hI2 hq M6 N a0 4 hOk (by unfold zc12; rw [hFx.c12]; exact h_a0) ⟨by decide, by decide⟩) (cwV 2 hts gL_isCleaned_X8_ofWell rfl rfl rfl (by decide +kernel) ⟨Nat.le_of_ble_eq_true rfl, Nat.le_of_ble_eq_true rfl⟩) (z_recv (ci := 8) (i := 0) hK hT rfl (by decide) rfl) ⟨hT, hH, hG⟩ hK hN zw_nest_ok rfl hl.1 rfl (Nat.le_of_ble_eq_true rfl) dL_isCleaned_42 ⟨Nat.le_refl _, Nat.le_refl _⟩ hS (fun _ h => h) (fun H locs hB1 oq1 hz1 hS => ?_)
    obtain ⟨hT, hH, hG⟩ := hB1
    refine lv_topi (fun x10 ex10 => ?_)
    refine lv_if_ne (tgt := 73) hx hb dL_isCleaned_45 (by decide) (fun c11 => absurd c11 (not_not_intro (by rw [ex10, (q_ow (M := M6) (N := N) e0 hk6).2.2.2.2.1]; exact hC.2.2.2.1))) (fun c11 => ?_)
    refine lv_aload_n hx hb dL_isCleaned_48 rfl (lv_at hl 2 rfl) ?_
    refine lv_iconst (v := 0) hx hb dL_isCleaned_49 (by decide) ?_
    refine lv_iconst (v := 0) hx hb dL_isCleaned_50 (by decide) ?_
    refine z_cVi (D := (dC, dI)) (cl := vwCl) (tys := zt ca) (nw := zw_nest) (C := RX8) (As := [.int 0, .int 0]) (rest := []) ⟨hx, hb, hml, hown, hts⟩ (m_X8_ofOwner l dC dI ca sf ad hI ad2 hI2 hq M6 N 0 0 hOk ⟨0, by decide, by decide, rfl⟩ ⟨by decide, by decide⟩) (cwV 2 hts gL_isCleaned_X8_ofOwner rfl rfl rfl (by decide +kernel) ⟨Nat.le_of_ble_eq_true rfl, Nat.le_of_ble_eq_true rfl⟩) (z_recv (ci := 8) (i := 0) hK hT rfl (by decide) rfl) ⟨hT, hH, hG⟩ hK hN zw_nest_ok rfl hl.1 rfl (Nat.le_of_ble_eq_true rfl) dL_isCleaned_51 ⟨Nat.le_refl _, Nat.le_refl _⟩ hS (fun _ h => h) (fun H locs hB1 oq1 hz1 hS => ?_)
    obtain ⟨hT, hH, hG⟩ := hB1
    refine lv_topi (fun x12 ex12 => ?_)
    refine lv_aload_n hx hb dL_isCleaned_54 rfl (lv_at hl 2 rfl) ?_
    refine lv_iconst (v := 1) hx hb dL_isCleaned_55 (by decide) ?_
    refine lv_iconst (v := 0) hx hb dL_isCleaned_56 (by decide) ?_
    refine z_cVi (D := (dC, dI)) (cl := vwCl) (tys := zt ca) (nw := zw_nest) (C := RX8) (As := [.int 1, .int 0]) (rest := [.int x12]) ⟨hx, hb, hml, hown, hts⟩ (m_X8_ofOwner l dC dI ca sf ad hI ad2 hI2 hq M6 N 1 0 hOk ⟨1, by decide, by decide, rfl⟩ ⟨by decide, by decide⟩) (cwV 2 hts gL_isCleaned_X8_ofOwner rfl rfl rfl (by decide +kernel) ⟨Nat.le_of_ble_eq_true rfl, Nat.le_of_ble_eq_true rfl⟩) (z_recv (ci := 8) (i := 0) hK hT rfl (by decide) rfl) ⟨hT, hH, hG⟩ hK hN zw_nest_ok rfl hl.1 rfl (Nat.le_of_ble_eq_true rfl) dL_isCleaned_57 ⟨Nat.le_refl _, Nat.le_refl _⟩ hS (fun _ h => h) (fun H locs hB1 oq1 hz1 hS => ?_)
    obtain ⟨hT, hH, hG⟩ := hB1
    refine lv_topi (fun x13 ex13 => ?_)
    refine lv_iadd hx hb dL_isCleaned_60 ?_
    refine lv_topi (fun x14 ex14 => ?_)
    refine lv_iload_n hx hb dL_isCleaned_61 rfl (lv_at hl 1 rfl) ?_
    refine lv_iconst (v := 5) hx hb dL_isCleaned_62 (by decide) ?_
    refine lv_iload_n hx hb dL_isCleaned_63 rfl (lv_at hl 0 rfl) ?_
    refine lv_imul hx hb dL_isCleaned_64 ?_
    refine lv_topi (fun x15 ex15 => ?_)
    refine lv_isub hx hb dL_isCleaned_65 ?_
    refine lv_topi (fun x16 ex16 => ?_)
    refine lv_icmp_ne (tgt := 73) hx hb dL_isCleaned_66 (by decide) (fun c17 => absurd c17 (not_not_intro (by subst ex16; subst ex15; subst ex14; subst ex13; subst ex12; subst ex10; subst ex8; subst hM6; subst ex5; subst ex4; subst ex3; subst ex2; subst ex1; rw [(q_ow (M := M) (N := N) e0 hk6).2.2.2.1]; exact hC.2.2.2.2))) (fun c17 => ?_)
    refine lv_iconst (v := 1) hx hb dL_isCleaned_69 (by decide) ?_
    refine lv_goto (tgt := 74) hx hb dL_isCleaned_70 (by decide) ?_
    exact W.zret (v := 1) (ty := .boolean) hx hb hr (by decide) (fun t' ht hW => ⟨⟨1, M6, rfl, ⟨rfl, hC.1⟩, z_to (B := fun H => (fun M' H => zT dC dI ca sf (ad 0) (ad2 0) H ∧ zW dC dI ca ad M' H ∧ zW dC dI ca ad2 N H) M6 H) ht ⟨hT, hH, hG⟩⟩, hS.F ht⟩) hS.2.2 dL_isCleaned_74
