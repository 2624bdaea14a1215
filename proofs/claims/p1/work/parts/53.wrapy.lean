theorem yd_one {A : Nat → Prop} {q : Nat × va_E} (h : A q.1) : va_D A [q] := by
  refine ⟨fun i j x y hi hj _ => ?_, fun k x hx => ?_⟩
  · have h1 : i < 1 := (List.getElem?_eq_some_iff.mp hi).1
    have h2 : j < 1 := (List.getElem?_eq_some_iff.mp hj).1
    omega
  · have h1 : k < 1 := (List.getElem?_eq_some_iff.mp hx).1
    rw [show k = 0 by omega] at hx
    cases hx
    exact h
set_option maxHeartbeats 4000000 in
set_option maxRecDepth 100000 in
theorem m_L_blocky (l : Launch) (dC : Nat → ClassId) (dI : Nat → Nat → Nat) (ca : Nat → ClassId) (sf : Nat) (ad : Nat → Nat) (hI : z_I zd ad) (ad2 : Nat → Nat) (hI2 : z_I zd ad2) (hq : zSep sf ad ad2) (ob : Nat) (hob : ¬ zA2 ad ad2 ob) (f : Nat → Int64) (M : zM) (N : zM) (a0 a1 a2 a3 a4 : Int32) (hOk0 : z_Ok M) (r_a0 : z_rg a0 10 99) (r_a1 : z_rg a1 0 1) (r_a2 : z_rg a2 0 2000) (r_a3 : z_rg a3 0 400) (r_a4 : z_rg a4 0 9999) (h_room : zc10 M < 8) : Met l yL_block wsL_block ({ frames := 2, cells := 0, slots := 0, locals := 49 }) (z_Pc (dC, dI) vwCl (lt9 ca) zw_nest [.ref sf, .int a0, .int a1, .int a2, .int a3, .int a4, .ref ob] (fun H => (zT dC dI ca sf (ad 0) (ad2 0) H ∧ zW dC dI ca ad M H ∧ zW dC dI ca ad2 N H) ∧ yO dC dI ca ob f H)) (z_Qi 0 (fun H => yO dC dI ca ob (vp_updL f 0 (rX8_block M N a0 a1 a2 a3 a4).toInt64) H) (zAo ad ad2 ob)) 0 0 (zAo ad ad2 ob) := by
  refine va_MetW (cc := cL_block) (maxL := 8) (ret := (some .int)) (by decide) rfl ?_
  intro p e s m args below meth c s₁ B9 hml hv
  obtain ⟨rfl, ⟨⟨hT, hH, hG⟩, hO⟩, hK, hN⟩ := hv
  have hx := B9.exec
  have hb := B9.bytes
  have hr := B9.returns
  have hts := atoms_spec (ws := wsL_block) B9.pre
  have hown : s.vm.findClass RL = some m.cls := findClass_of_methodNamed B9.named
  have hlocks := B9.notSynchronized
  have hS : va_S (zAo ad ad2 ob) s.heap s.heap [] := va_S.rf
  have hK5 : va_K (dC, dI) vwCl (zt ca) s := va_K.sub hK [0, 1, 2, 3, 4] rfl
  have hT : zT dC dI ca sf (ad 0) (ad2 0) s.heap := hT
  have hH : zW dC dI ca ad M s.heap := hH
  have hG : zW dC dI ca ad2 N s.heap := hG
  have hl := lv_entry ([.ref sf, .int a0, .int a1, .int a2, .int a3, .int a4, .ref ob]) (n := 8) (Nat.le_of_ble_eq_true rfl)
  rw [lg_entry_eq]
  generalize (lg_sl ([.ref sf, .int a0, .int a1, .int a2, .int a3, .int a4, .ref ob]) ++ List.replicate (8 - (lg_sl ([.ref sf, .int a0, .int a1, .int a2, .int a3, .int a4, .ref ob])).length) Slot.unset).toArray = ls at hl ⊢
  have hl : lv_has ls 8 [(0, .ref sf), (1, .int a0), (2, .int a1), (3, .int a2), (4, .int a3), (5, .int a4), (6, .ref ob)] := hl
  refine lv_aload hx hb dL_block_0 (lv_at hl 6 rfl) ?_
  refine lv_iconst (v := 0) hx hb dL_block_2 (by decide) ?_
  refine lv_aload_n hx hb dL_block_3 rfl (lv_at hl 0 rfl) ?_
  refine lv_iload_n hx hb dL_block_4 rfl (lv_at hl 1 rfl) ?_
  refine lv_iload_n hx hb dL_block_5 rfl (lv_at hl 2 rfl) ?_
  refine lv_iload_n hx hb dL_block_6 rfl (lv_at hl 3 rfl) ?_
  refine lv_iload hx hb dL_block_7 (lv_at hl 4 rfl) ?_
  refine lv_iload hx hb dL_block_9 (lv_at hl 5 rfl) ?_
  refine z_cVi (D := (dC, dI)) (cl := vwCl) (tys := zt ca) (nw := zw_nest) (C := RX8) (As := [.int a0, .int a1, .int a2, .int a3, .int a4]) (rest := [.int 0, .ref ob]) ⟨hx, hb, hml, hown, hts⟩ (m_X8_block l dC dI ca sf ad hI ad2 hI2 hq M N a0 a1 a2 a3 a4 hOk0 r_a0 r_a1 r_a2 r_a3 r_a4 h_room) (cwV 5 hts gL_block_X8_block rfl rfl rfl (by decide +kernel) ⟨Nat.le_of_ble_eq_true rfl, Nat.le_of_ble_eq_true rfl⟩) (z_recv (ci := 8) (i := 0) hK5 hT rfl (by decide) rfl) ⟨hT, hH, hG⟩ hK5 hN zw_nest_ok rfl hl.1 rfl (Nat.le_of_ble_eq_true rfl) dL_block_11 ⟨Nat.le_refl _, Nat.le_refl _⟩ hS (fun _ h => Or.inl h) (fun H locs hB1 oq1 hz1 hS => ?_)
  have hO := va_at.kept hO (oq1 _ (va_at.lt hO) hob)
  refine lv_i2l hx hb dL_block_14 rfl ?_
  refine va_last hx hb hK (y_one hO) (yd_one (A := (zAo ad ad2 ob)) (Or.inr rfl)) hS 0 6 rfl rfl (zx (n := 0) (N := 1) (x := 0) rfl (by decide) (by decide)) dL_block_15 (fun H locs hO _ hS => ?_)
  have hO : yO dC dI ca ob (vp_updL f 0 (rX8_block M N a0 a1 a2 a3 a4).toInt64) H := hO 0 _ rfl
  refine lv_goto (tgt := 27) hx hb dL_block_16 (by decide) ?_
  refine lv_iconst (v := 0) hx hb dL_block_27 (by decide) ?_
  exact W.iret (v := 0) hx hb hr (fun t ht hW => ⟨⟨0, (), rfl, rfl, z_to (B := (fun H => yO dC dI ca ob (vp_updL f 0 (rX8_block M N a0 a1 a2 a3 a4).toInt64) H)) ht hO⟩, hS.F ht⟩) hS.2.2 dL_block_28
set_option maxHeartbeats 4000000 in
set_option maxRecDepth 100000 in
theorem m_L_turbiney (l : Launch) (dC : Nat → ClassId) (dI : Nat → Nat → Nat) (ca : Nat → ClassId) (sf : Nat) (ad : Nat → Nat) (hI : z_I zd ad) (ad2 : Nat → Nat) (hI2 : z_I zd ad2) (hq : zSep sf ad ad2) (ob : Nat) (hob : ¬ zA2 ad ad2 ob) (f : Nat → Int64) (M : zM) (N : zM) (a0 : Int32) (hOk0 : z_Ok M) (r_a0 : z_rg a0 0 99) : Met l yL_turbine wsL_turbine ({ frames := 2, cells := 0, slots := 0, locals := 44 }) (z_Pc (dC, dI) vwCl (lt9 ca) zw_nest [.ref sf, .int a0, .ref ob] (fun H => (zT dC dI ca sf (ad 0) (ad2 0) H ∧ zW dC dI ca ad M H ∧ zW dC dI ca ad2 N H) ∧ yO dC dI ca ob f H)) (z_Qi 0 (fun H => yO dC dI ca ob (vp_updL f 0 (rX8_turbine M N a0).toInt64) H) (zAo ad ad2 ob)) 0 0 (zAo ad ad2 ob) := by
  refine va_MetW (cc := cL_turbine) (maxL := 4) (ret := (some .int)) (by decide) rfl ?_
  intro p e s m args below meth c s₁ B9 hml hv
  obtain ⟨rfl, ⟨⟨hT, hH, hG⟩, hO⟩, hK, hN⟩ := hv
  have hx := B9.exec
  have hb := B9.bytes
  have hr := B9.returns
  have hts := atoms_spec (ws := wsL_turbine) B9.pre
  have hown : s.vm.findClass RL = some m.cls := findClass_of_methodNamed B9.named
  have hlocks := B9.notSynchronized
  have hS : va_S (zAo ad ad2 ob) s.heap s.heap [] := va_S.rf
  have hK5 : va_K (dC, dI) vwCl (zt ca) s := va_K.sub hK [0, 1, 2, 3, 4] rfl
  have hT : zT dC dI ca sf (ad 0) (ad2 0) s.heap := hT
  have hH : zW dC dI ca ad M s.heap := hH
  have hG : zW dC dI ca ad2 N s.heap := hG
  have hl := lv_entry ([.ref sf, .int a0, .ref ob]) (n := 4) (Nat.le_of_ble_eq_true rfl)
  rw [lg_entry_eq]
  generalize (lg_sl ([.ref sf, .int a0, .ref ob]) ++ List.replicate (4 - (lg_sl ([.ref sf, .int a0, .ref ob])).length) Slot.unset).toArray = ls at hl ⊢
  have hl : lv_has ls 4 [(0, .ref sf), (1, .int a0), (2, .ref ob)] := hl
  refine lv_aload_n hx hb dL_turbine_0 rfl (lv_at hl 2 rfl) ?_
  refine lv_iconst (v := 0) hx hb dL_turbine_1 (by decide) ?_
  refine lv_aload_n hx hb dL_turbine_2 rfl (lv_at hl 0 rfl) ?_
  refine lv_iload_n hx hb dL_turbine_3 rfl (lv_at hl 1 rfl) ?_
  refine z_cVi (D := (dC, dI)) (cl := vwCl) (tys := zt ca) (nw := zw_nest) (C := RX8) (As := [.int a0]) (rest := [.int 0, .ref ob]) ⟨hx, hb, hml, hown, hts⟩ (m_X8_turbine l dC dI ca sf ad hI ad2 hI2 hq M N a0 hOk0 r_a0) (cwV 1 hts gL_turbine_X8_turbine rfl rfl rfl (by decide +kernel) ⟨Nat.le_of_ble_eq_true rfl, Nat.le_of_ble_eq_true rfl⟩) (z_recv (ci := 8) (i := 0) hK5 hT rfl (by decide) rfl) ⟨hT, hH, hG⟩ hK5 hN zw_nest_ok rfl hl.1 rfl (Nat.le_of_ble_eq_true rfl) dL_turbine_4 ⟨Nat.le_refl _, Nat.le_refl _⟩ hS (fun _ h => Or.inl h) (fun H locs hB1 oq1 hz1 hS => ?_)
  have hO := va_at.kept hO (oq1 _ (va_at.lt hO) hob)
  refine lv_i2l hx hb dL_turbine_7 rfl ?_
  refine va_last hx hb hK (y_one hO) (yd_one (A := (zAo ad ad2 ob)) (Or.inr rfl)) hS 0 6 rfl rfl (zx (n := 0) (N := 1) (x := 0) rfl (by decide) (by decide)) dL_turbine_8 (fun H locs hO _ hS => ?_)
  have hO : yO dC dI ca ob (vp_updL f 0 (rX8_turbine M N a0).toInt64) H := hO 0 _ rfl
  refine lv_goto (tgt := 15) hx hb dL_turbine_9 (by decide) ?_
  refine lv_iconst (v := 0) hx hb dL_turbine_15 (by decide) ?_
  exact W.iret (v := 0) hx hb hr (fun t ht hW => ⟨⟨0, (), rfl, rfl, z_to (B := (fun H => yO dC dI ca ob (vp_updL f 0 (rX8_turbine M N a0).toInt64) H)) ht hO⟩, hS.F ht⟩) hS.2.2 dL_turbine_16
set_option maxHeartbeats 4000000 in
set_option maxRecDepth 100000 in
theorem m_L_towny (l : Launch) (dC : Nat → ClassId) (dI : Nat → Nat → Nat) (ca : Nat → ClassId) (sf : Nat) (ad : Nat → Nat) (hI : z_I zd ad) (ad2 : Nat → Nat) (hI2 : z_I zd ad2) (hq : zSep sf ad ad2) (ob : Nat) (hob : ¬ zA2 ad ad2 ob) (f : Nat → Int64) (M : zM) (N : zM) (a0 : Int32) (hOk0 : z_Ok M) (r_a0 : z_rg a0 0 999) : Met l yL_town wsL_town ({ frames := 2, cells := 0, slots := 0, locals := 44 }) (z_Pc (dC, dI) vwCl (lt9 ca) zw_nest [.ref sf, .int a0, .ref ob] (fun H => (zT dC dI ca sf (ad 0) (ad2 0) H ∧ zW dC dI ca ad M H ∧ zW dC dI ca ad2 N H) ∧ yO dC dI ca ob f H)) (z_Qi 0 (fun H => yO dC dI ca ob (vp_updL f 0 (rX8_town M N a0).toInt64) H) (zAo ad ad2 ob)) 0 0 (zAo ad ad2 ob) := by
  refine va_MetW (cc := cL_town) (maxL := 4) (ret := (some .int)) (by decide) rfl ?_
  intro p e s m args below meth c s₁ B9 hml hv
  obtain ⟨rfl, ⟨⟨hT, hH, hG⟩, hO⟩, hK, hN⟩ := hv
  have hx := B9.exec
  have hb := B9.bytes
  have hr := B9.returns
  have hts := atoms_spec (ws := wsL_town) B9.pre
  have hown : s.vm.findClass RL = some m.cls := findClass_of_methodNamed B9.named
  have hlocks := B9.notSynchronized
  have hS : va_S (zAo ad ad2 ob) s.heap s.heap [] := va_S.rf
  have hK5 : va_K (dC, dI) vwCl (zt ca) s := va_K.sub hK [0, 1, 2, 3, 4] rfl
  have hT : zT dC dI ca sf (ad 0) (ad2 0) s.heap := hT
  have hH : zW dC dI ca ad M s.heap := hH
  have hG : zW dC dI ca ad2 N s.heap := hG
  have hl := lv_entry ([.ref sf, .int a0, .ref ob]) (n := 4) (Nat.le_of_ble_eq_true rfl)
  rw [lg_entry_eq]
  generalize (lg_sl ([.ref sf, .int a0, .ref ob]) ++ List.replicate (4 - (lg_sl ([.ref sf, .int a0, .ref ob])).length) Slot.unset).toArray = ls at hl ⊢
  have hl : lv_has ls 4 [(0, .ref sf), (1, .int a0), (2, .ref ob)] := hl
  refine lv_aload_n hx hb dL_town_0 rfl (lv_at hl 2 rfl) ?_
  refine lv_iconst (v := 0) hx hb dL_town_1 (by decide) ?_
  refine lv_aload_n hx hb dL_town_2 rfl (lv_at hl 0 rfl) ?_
  refine lv_iload_n hx hb dL_town_3 rfl (lv_at hl 1 rfl) ?_
  refine z_cVi (D := (dC, dI)) (cl := vwCl) (tys := zt ca) (nw := zw_nest) (C := RX8) (As := [.int a0]) (rest := [.int 0, .ref ob]) ⟨hx, hb, hml, hown, hts⟩ (m_X8_town l dC dI ca sf ad hI ad2 hI2 hq M N a0 hOk0 r_a0) (cwV 1 hts gL_town_X8_town rfl rfl rfl (by decide +kernel) ⟨Nat.le_of_ble_eq_true rfl, Nat.le_of_ble_eq_true rfl⟩) (z_recv (ci := 8) (i := 0) hK5 hT rfl (by decide) rfl) ⟨hT, hH, hG⟩ hK5 hN zw_nest_ok rfl hl.1 rfl (Nat.le_of_ble_eq_true rfl) dL_town_4 ⟨Nat.le_refl _, Nat.le_refl _⟩ hS (fun _ h => Or.inl h) (fun H locs hB1 oq1 hz1 hS => ?_)
  have hO := va_at.kept hO (oq1 _ (va_at.lt hO) hob)
  refine lv_i2l hx hb dL_town_7 rfl ?_
  refine va_last hx hb hK (y_one hO) (yd_one (A := (zAo ad ad2 ob)) (Or.inr rfl)) hS 0 6 rfl rfl (zx (n := 0) (N := 1) (x := 0) rfl (by decide) (by decide)) dL_town_8 (fun H locs hO _ hS => ?_)
  have hO : yO dC dI ca ob (vp_updL f 0 (rX8_town M N a0).toInt64) H := hO 0 _ rfl
  refine lv_goto (tgt := 15) hx hb dL_town_9 (by decide) ?_
  refine lv_iconst (v := 0) hx hb dL_town_15 (by decide) ?_
  exact W.iret (v := 0) hx hb hr (fun t ht hW => ⟨⟨0, (), rfl, rfl, z_to (B := (fun H => yO dC dI ca ob (vp_updL f 0 (rX8_town M N a0).toInt64) H)) ht hO⟩, hS.F ht⟩) hS.2.2 dL_town_16
set_option maxHeartbeats 4000000 in
set_option maxRecDepth 100000 in
theorem m_L_runy (l : Launch) (dC : Nat → ClassId) (dI : Nat → Nat → Nat) (ca : Nat → ClassId) (sf : Nat) (ad : Nat → Nat) (hI : z_I zd ad) (ad2 : Nat → Nat) (hI2 : z_I zd ad2) (hq : zSep sf ad ad2) (ob : Nat) (hob : ¬ zA2 ad ad2 ob) (f : Nat → Int64) (M : zM) (N : zM) (a0 : Int32) (hOk0 : z_Ok M) (r_a0 : z_rg a0 1 30) : Met l yL_run wsL_run ({ frames := 6, cells := 0, slots := 0, locals := 141 }) (z_Pc (dC, dI) vwCl (lt9 ca) zw_nest [.ref sf, .int a0, .ref ob] (fun H => (zT dC dI ca sf (ad 0) (ad2 0) H ∧ zW dC dI ca ad M H ∧ zW dC dI ca ad2 N H) ∧ yO dC dI ca ob f H)) (z_Qi 0 (fun H => yO dC dI ca ob (vp_updL f 0 (rX8_run M N a0).toInt64) H) (zAo ad ad2 ob)) 0 0 (zAo ad ad2 ob) := by
  refine va_MetW (cc := cL_run) (maxL := 4) (ret := (some .int)) (by decide) rfl ?_
  intro p e s m args below meth c s₁ B9 hml hv
  obtain ⟨rfl, ⟨⟨hT, hH, hG⟩, hO⟩, hK, hN⟩ := hv
  have hx := B9.exec
  have hb := B9.bytes
  have hr := B9.returns
  have hts := atoms_spec (ws := wsL_run) B9.pre
  have hown : s.vm.findClass RL = some m.cls := findClass_of_methodNamed B9.named
  have hlocks := B9.notSynchronized
  have hS : va_S (zAo ad ad2 ob) s.heap s.heap [] := va_S.rf
  have hK5 : va_K (dC, dI) vwCl (zt ca) s := va_K.sub hK [0, 1, 2, 3, 4] rfl
  have hT : zT dC dI ca sf (ad 0) (ad2 0) s.heap := hT
  have hH : zW dC dI ca ad M s.heap := hH
  have hG : zW dC dI ca ad2 N s.heap := hG
  have hl := lv_entry ([.ref sf, .int a0, .ref ob]) (n := 4) (Nat.le_of_ble_eq_true rfl)
  rw [lg_entry_eq]
  generalize (lg_sl ([.ref sf, .int a0, .ref ob]) ++ List.replicate (4 - (lg_sl ([.ref sf, .int a0, .ref ob])).length) Slot.unset).toArray = ls at hl ⊢
  have hl : lv_has ls 4 [(0, .ref sf), (1, .int a0), (2, .ref ob)] := hl
  refine lv_aload_n hx hb dL_run_0 rfl (lv_at hl 2 rfl) ?_
  refine lv_iconst (v := 0) hx hb dL_run_1 (by decide) ?_
  refine lv_aload_n hx hb dL_run_2 rfl (lv_at hl 0 rfl) ?_
  refine lv_iload_n hx hb dL_run_3 rfl (lv_at hl 1 rfl) ?_
  refine z_cVi (D := (dC, dI)) (cl := vwCl) (tys := zt ca) (nw := zw_nest) (C := RX8) (As := [.int a0]) (rest := [.int 0, .ref ob]) ⟨hx, hb, hml, hown, hts⟩ (m_X8_run l dC dI ca sf ad hI ad2 hI2 hq M N a0 hOk0 r_a0) (cwV 1 hts gL_run_X8_run rfl rfl rfl (by decide +kernel) ⟨Nat.le_of_ble_eq_true rfl, Nat.le_of_ble_eq_true rfl⟩) (z_recv (ci := 8) (i := 0) hK5 hT rfl (by decide) rfl) ⟨hT, hH, hG⟩ hK5 hN zw_nest_ok rfl hl.1 rfl (Nat.le_of_ble_eq_true rfl) dL_run_4 ⟨Nat.le_refl _, Nat.le_refl _⟩ hS (fun _ h => Or.inl h) (fun H locs hB1 oq1 hz1 hS => ?_)
  have hO := va_at.kept hO (oq1 _ (va_at.lt hO) hob)
  refine lv_i2l hx hb dL_run_7 rfl ?_
  refine va_last hx hb hK (y_one hO) (yd_one (A := (zAo ad ad2 ob)) (Or.inr rfl)) hS 0 6 rfl rfl (zx (n := 0) (N := 1) (x := 0) rfl (by decide) (by decide)) dL_run_8 (fun H locs hO _ hS => ?_)
  have hO : yO dC dI ca ob (vp_updL f 0 (rX8_run M N a0).toInt64) H := hO 0 _ rfl
  refine lv_goto (tgt := 15) hx hb dL_run_9 (by decide) ?_
  refine lv_iconst (v := 0) hx hb dL_run_15 (by decide) ?_
  exact W.iret (v := 0) hx hb hr (fun t ht hW => ⟨⟨0, (), rfl, rfl, z_to (B := (fun H => yO dC dI ca ob (vp_updL f 0 (rX8_run M N a0).toInt64) H)) ht hO⟩, hS.F ht⟩) hS.2.2 dL_run_16
set_option maxHeartbeats 4000000 in
set_option maxRecDepth 100000 in
theorem m_L_pondy (l : Launch) (dC : Nat → ClassId) (dI : Nat → Nat → Nat) (ca : Nat → ClassId) (sf : Nat) (ad : Nat → Nat) (hI : z_I zd ad) (ad2 : Nat → Nat) (hI2 : z_I zd ad2) (hq : zSep sf ad ad2) (ob : Nat) (hob : ¬ zA2 ad ad2 ob) (f : Nat → Int64) (M : zM) (N : zM) (a0 : Int32) (hOk0 : z_Ok M) (r_a0 : z_rg a0 0 3) : Met l yL_pond wsL_pond ({ frames := 2, cells := 0, slots := 0, locals := 43 }) (z_Pc (dC, dI) vwCl (lt9 ca) zw_nest [.ref sf, .int a0, .ref ob] (fun H => (zT dC dI ca sf (ad 0) (ad2 0) H ∧ zW dC dI ca ad M H ∧ zW dC dI ca ad2 N H) ∧ yO dC dI ca ob f H)) (z_Qi 0 (fun H => yO dC dI ca ob (vp_updL f 0 (rX8_pond M N a0).toInt64) H) (zAo ad ad2 ob)) 0 0 (zAo ad ad2 ob) := by
  refine va_MetW (cc := cL_pond) (maxL := 4) (ret := (some .int)) (by decide) rfl ?_
  intro p e s m args below meth c s₁ B9 hml hv
  obtain ⟨rfl, ⟨⟨hT, hH, hG⟩, hO⟩, hK, hN⟩ := hv
  have hx := B9.exec
  have hb := B9.bytes
  have hr := B9.returns
  have hts := atoms_spec (ws := wsL_pond) B9.pre
  have hown : s.vm.findClass RL = some m.cls := findClass_of_methodNamed B9.named
  have hlocks := B9.notSynchronized
  have hS : va_S (zAo ad ad2 ob) s.heap s.heap [] := va_S.rf
  have hK5 : va_K (dC, dI) vwCl (zt ca) s := va_K.sub hK [0, 1, 2, 3, 4] rfl
  have hT : zT dC dI ca sf (ad 0) (ad2 0) s.heap := hT
  have hH : zW dC dI ca ad M s.heap := hH
  have hG : zW dC dI ca ad2 N s.heap := hG
  have hl := lv_entry ([.ref sf, .int a0, .ref ob]) (n := 4) (Nat.le_of_ble_eq_true rfl)
  rw [lg_entry_eq]
  generalize (lg_sl ([.ref sf, .int a0, .ref ob]) ++ List.replicate (4 - (lg_sl ([.ref sf, .int a0, .ref ob])).length) Slot.unset).toArray = ls at hl ⊢
  have hl : lv_has ls 4 [(0, .ref sf), (1, .int a0), (2, .ref ob)] := hl
  refine lv_aload_n hx hb dL_pond_0 rfl (lv_at hl 2 rfl) ?_
  refine lv_iconst (v := 0) hx hb dL_pond_1 (by decide) ?_
  refine lv_aload_n hx hb dL_pond_2 rfl (lv_at hl 0 rfl) ?_
  refine lv_iload_n hx hb dL_pond_3 rfl (lv_at hl 1 rfl) ?_
  refine z_cVi (D := (dC, dI)) (cl := vwCl) (tys := zt ca) (nw := zw_nest) (C := RX8) (As := [.int a0]) (rest := [.int 0, .ref ob]) ⟨hx, hb, hml, hown, hts⟩ (m_X8_pond l dC dI ca sf ad hI ad2 hI2 hq M N a0 hOk0 r_a0) (cwV 1 hts gL_pond_X8_pond rfl rfl rfl (by decide +kernel) ⟨Nat.le_of_ble_eq_true rfl, Nat.le_of_ble_eq_true rfl⟩) (z_recv (ci := 8) (i := 0) hK5 hT rfl (by decide) rfl) ⟨hT, hH, hG⟩ hK5 hN zw_nest_ok rfl hl.1 rfl (Nat.le_of_ble_eq_true rfl) dL_pond_4 ⟨Nat.le_refl _, Nat.le_refl _⟩ hS (fun _ h => Or.inl h) (fun H locs hB1 oq1 hz1 hS => ?_)
  have hO := va_at.kept hO (oq1 _ (va_at.lt hO) hob)
  refine lv_i2l hx hb dL_pond_7 rfl ?_
  refine va_last hx hb hK (y_one hO) (yd_one (A := (zAo ad ad2 ob)) (Or.inr rfl)) hS 0 6 rfl rfl (zx (n := 0) (N := 1) (x := 0) rfl (by decide) (by decide)) dL_pond_8 (fun H locs hO _ hS => ?_)
  have hO : yO dC dI ca ob (vp_updL f 0 (rX8_pond M N a0).toInt64) H := hO 0 _ rfl
  refine lv_goto (tgt := 15) hx hb dL_pond_9 (by decide) ?_
  refine lv_iconst (v := 0) hx hb dL_pond_15 (by decide) ?_
  exact W.iret (v := 0) hx hb hr (fun t ht hW => ⟨⟨0, (), rfl, rfl, z_to (B := (fun H => yO dC dI ca ob (vp_updL f 0 (rX8_pond M N a0).toInt64) H)) ht hO⟩, hS.F ht⟩) hS.2.2 dL_pond_16
set_option maxHeartbeats 4000000 in
set_option maxRecDepth 100000 in
theorem m_L_ofOwnery (l : Launch) (dC : Nat → ClassId) (dI : Nat → Nat → Nat) (ca : Nat → ClassId) (sf : Nat) (ad : Nat → Nat) (hI : z_I zd ad) (ad2 : Nat → Nat) (hI2 : z_I zd ad2) (hq : zSep sf ad ad2) (ob : Nat) (hob : ¬ zA2 ad ad2 ob) (f : Nat → Int64) (M : zM) (N : zM) (a0 a1 : Int32) (hOk0 : z_Ok M) (h_a0 : z_ix a0 2) (r_a1 : z_rg a1 0 1) : Met l yL_ofOwner wsL_ofOwner ({ frames := 2, cells := 0, slots := 0, locals := 45 }) (z_Pc (dC, dI) vwCl (lt9 ca) zw_nest [.ref sf, .int a0, .int a1, .ref ob] (fun H => (zT dC dI ca sf (ad 0) (ad2 0) H ∧ zW dC dI ca ad M H ∧ zW dC dI ca ad2 N H) ∧ yO dC dI ca ob f H)) (z_Qi 0 (fun H => yO dC dI ca ob (vp_updL f 0 (rX8_ofOwner M N a0 a1).toInt64) H) (zAo ad ad2 ob)) 0 0 (zAo ad ad2 ob) := by
  refine va_MetW (cc := cL_ofOwner) (maxL := 5) (ret := (some .int)) (by decide) rfl ?_
  intro p e s m args below meth c s₁ B9 hml hv
  obtain ⟨rfl, ⟨⟨hT, hH, hG⟩, hO⟩, hK, hN⟩ := hv
  have hx := B9.exec
  have hb := B9.bytes
  have hr := B9.returns
  have hts := atoms_spec (ws := wsL_ofOwner) B9.pre
  have hown : s.vm.findClass RL = some m.cls := findClass_of_methodNamed B9.named
  have hlocks := B9.notSynchronized
  have hS : va_S (zAo ad ad2 ob) s.heap s.heap [] := va_S.rf
  have hK5 : va_K (dC, dI) vwCl (zt ca) s := va_K.sub hK [0, 1, 2, 3, 4] rfl
  have hT : zT dC dI ca sf (ad 0) (ad2 0) s.heap := hT
  have hH : zW dC dI ca ad M s.heap := hH
  have hG : zW dC dI ca ad2 N s.heap := hG
  have hl := lv_entry ([.ref sf, .int a0, .int a1, .ref ob]) (n := 5) (Nat.le_of_ble_eq_true rfl)
  rw [lg_entry_eq]
  generalize (lg_sl ([.ref sf, .int a0, .int a1, .ref ob]) ++ List.replicate (5 - (lg_sl ([.ref sf, .int a0, .int a1, .ref ob])).length) Slot.unset).toArray = ls at hl ⊢
  have hl : lv_has ls 5 [(0, .ref sf), (1, .int a0), (2, .int a1), (3, .ref ob)] := hl
  refine lv_aload_n hx hb dL_ofOwner_0 rfl (lv_at hl 3 rfl) ?_
  refine lv_iconst (v := 0) hx hb dL_ofOwner_1 (by decide) ?_
  refine lv_aload_n hx hb dL_ofOwner_2 rfl (lv_at hl 0 rfl) ?_
  refine lv_iload_n hx hb dL_ofOwner_3 rfl (lv_at hl 1 rfl) ?_
  refine lv_iload_n hx hb dL_ofOwner_4 rfl (lv_at hl 2 rfl) ?_
  refine z_cVi (D := (dC, dI)) (cl := vwCl) (tys := zt ca) (nw := zw_nest) (C := RX8) (As := [.int a0, .int a1]) (rest := [.int 0, .ref ob]) ⟨hx, hb, hml, hown, hts⟩ (m_X8_ofOwner l dC dI ca sf ad hI ad2 hI2 hq M N a0 a1 hOk0 h_a0 r_a1) (cwV 2 hts gL_ofOwner_X8_ofOwner rfl rfl rfl (by decide +kernel) ⟨Nat.le_of_ble_eq_true rfl, Nat.le_of_ble_eq_true rfl⟩) (z_recv (ci := 8) (i := 0) hK5 hT rfl (by decide) rfl) ⟨hT, hH, hG⟩ hK5 hN zw_nest_ok rfl hl.1 rfl (Nat.le_of_ble_eq_true rfl) dL_ofOwner_5 ⟨Nat.le_refl _, Nat.le_refl _⟩ hS (fun _ h => Or.inl h) (fun H locs hB1 oq1 hz1 hS => ?_)
  have hO := va_at.kept hO (oq1 _ (va_at.lt hO) hob)
  refine lv_i2l hx hb dL_ofOwner_8 rfl ?_
  refine va_last hx hb hK (y_one hO) (yd_one (A := (zAo ad ad2 ob)) (Or.inr rfl)) hS 0 6 rfl rfl (zx (n := 0) (N := 1) (x := 0) rfl (by decide) (by decide)) dL_ofOwner_9 (fun H locs hO _ hS => ?_)
  have hO : yO dC dI ca ob (vp_updL f 0 (rX8_ofOwner M N a0 a1).toInt64) H := hO 0 _ rfl
  refine lv_goto (tgt := 21) hx hb dL_ofOwner_10 (by decide) ?_
  refine lv_iconst (v := 0) hx hb dL_ofOwner_21 (by decide) ?_
  exact W.iret (v := 0) hx hb hr (fun t ht hW => ⟨⟨0, (), rfl, rfl, z_to (B := (fun H => yO dC dI ca ob (vp_updL f 0 (rX8_ofOwner M N a0 a1).toInt64) H)) ht hO⟩, hS.F ht⟩) hS.2.2 dL_ofOwner_22
set_option maxHeartbeats 4000000 in
set_option maxRecDepth 100000 in
theorem m_L_massy (l : Launch) (dC : Nat → ClassId) (dI : Nat → Nat → Nat) (ca : Nat → ClassId) (sf : Nat) (ad : Nat → Nat) (hI : z_I zd ad) (ad2 : Nat → Nat) (hI2 : z_I zd ad2) (hq : zSep sf ad ad2) (ob : Nat) (hob : ¬ zA2 ad ad2 ob) (f : Nat → Int64) (M : zM) (N : zM) (a0 : Int32) (hOk0 : z_Ok M) (r_a0 : z_rg a0 0 6) : Met l yL_mass wsL_mass ({ frames := 3, cells := 0, slots := 0, locals := 65 }) (z_Pc (dC, dI) vwCl (lt9 ca) zw_nest [.ref sf, .int a0, .ref ob] (fun H => (zT dC dI ca sf (ad 0) (ad2 0) H ∧ zW dC dI ca ad M H ∧ zW dC dI ca ad2 N H) ∧ yO dC dI ca ob f H)) (z_Qi 0 (fun H => yO dC dI ca ob (vp_updL f 0 (rX8_mass M N a0).toInt64) H) (zAo ad ad2 ob)) 0 0 (zAo ad ad2 ob) := by
  refine va_MetW (cc := cL_mass) (maxL := 4) (ret := (some .int)) (by decide) rfl ?_
  intro p e s m args below meth c s₁ B9 hml hv
  obtain ⟨rfl, ⟨⟨hT, hH, hG⟩, hO⟩, hK, hN⟩ := hv
  have hx := B9.exec
  have hb := B9.bytes
  have hr := B9.returns
  have hts := atoms_spec (ws := wsL_mass) B9.pre
  have hown : s.vm.findClass RL = some m.cls := findClass_of_methodNamed B9.named
  have hlocks := B9.notSynchronized
  have hS : va_S (zAo ad ad2 ob) s.heap s.heap [] := va_S.rf
  have hK5 : va_K (dC, dI) vwCl (zt ca) s := va_K.sub hK [0, 1, 2, 3, 4] rfl
  have hT : zT dC dI ca sf (ad 0) (ad2 0) s.heap := hT
  have hH : zW dC dI ca ad M s.heap := hH
  have hG : zW dC dI ca ad2 N s.heap := hG
  have hl := lv_entry ([.ref sf, .int a0, .ref ob]) (n := 4) (Nat.le_of_ble_eq_true rfl)
  rw [lg_entry_eq]
  generalize (lg_sl ([.ref sf, .int a0, .ref ob]) ++ List.replicate (4 - (lg_sl ([.ref sf, .int a0, .ref ob])).length) Slot.unset).toArray = ls at hl ⊢
  have hl : lv_has ls 4 [(0, .ref sf), (1, .int a0), (2, .ref ob)] := hl
  refine lv_aload_n hx hb dL_mass_0 rfl (lv_at hl 2 rfl) ?_
  refine lv_iconst (v := 0) hx hb dL_mass_1 (by decide) ?_
  refine lv_aload_n hx hb dL_mass_2 rfl (lv_at hl 0 rfl) ?_
  refine lv_iload_n hx hb dL_mass_3 rfl (lv_at hl 1 rfl) ?_
  refine z_cVi (D := (dC, dI)) (cl := vwCl) (tys := zt ca) (nw := zw_nest) (C := RX8) (As := [.int a0]) (rest := [.int 0, .ref ob]) ⟨hx, hb, hml, hown, hts⟩ (m_X8_mass l dC dI ca sf ad hI ad2 hI2 hq M N a0 hOk0 r_a0) (cwV 1 hts gL_mass_X8_mass rfl rfl rfl (by decide +kernel) ⟨Nat.le_of_ble_eq_true rfl, Nat.le_of_ble_eq_true rfl⟩) (z_recv (ci := 8) (i := 0) hK5 hT rfl (by decide) rfl) ⟨hT, hH, hG⟩ hK5 hN zw_nest_ok rfl hl.1 rfl (Nat.le_of_ble_eq_true rfl) dL_mass_4 ⟨Nat.le_refl _, Nat.le_refl _⟩ hS (fun _ h => Or.inl h) (fun H locs hB1 oq1 hz1 hS => ?_)
  have hO := va_at.kept hO (oq1 _ (va_at.lt hO) hob)
  refine lv_i2l hx hb dL_mass_7 rfl ?_
  refine va_last hx hb hK (y_one hO) (yd_one (A := (zAo ad ad2 ob)) (Or.inr rfl)) hS 0 6 rfl rfl (zx (n := 0) (N := 1) (x := 0) rfl (by decide) (by decide)) dL_mass_8 (fun H locs hO _ hS => ?_)
  have hO : yO dC dI ca ob (vp_updL f 0 (rX8_mass M N a0).toInt64) H := hO 0 _ rfl
  refine lv_goto (tgt := 15) hx hb dL_mass_9 (by decide) ?_
  refine lv_iconst (v := 0) hx hb dL_mass_15 (by decide) ?_
  exact W.iret (v := 0) hx hb hr (fun t ht hW => ⟨⟨0, (), rfl, rfl, z_to (B := (fun H => yO dC dI ca ob (vp_updL f 0 (rX8_mass M N a0).toInt64) H)) ht hO⟩, hS.F ht⟩) hS.2.2 dL_mass_16
set_option maxHeartbeats 4000000 in
set_option maxRecDepth 100000 in
theorem m_L_manyy (l : Launch) (dC : Nat → ClassId) (dI : Nat → Nat → Nat) (ca : Nat → ClassId) (sf : Nat) (ad : Nat → Nat) (hI : z_I zd ad) (ad2 : Nat → Nat) (hI2 : z_I zd ad2) (hq : zSep sf ad ad2) (ob : Nat) (hob : ¬ zA2 ad ad2 ob) (f : Nat → Int64) (M : zM) (N : zM) (a0 : Int32) (hOk0 : z_Ok M) (r_a0 : z_rg a0 0 12) : Met l yL_many wsL_many ({ frames := 2, cells := 0, slots := 0, locals := 43 }) (z_Pc (dC, dI) vwCl (lt9 ca) zw_nest [.ref sf, .int a0, .ref ob] (fun H => (zT dC dI ca sf (ad 0) (ad2 0) H ∧ zW dC dI ca ad M H ∧ zW dC dI ca ad2 N H) ∧ yO dC dI ca ob f H)) (z_Qi 0 (fun H => yO dC dI ca ob (vp_updL f 0 (rX8_many M N a0).toInt64) H) (zAo ad ad2 ob)) 0 0 (zAo ad ad2 ob) := by
  refine va_MetW (cc := cL_many) (maxL := 4) (ret := (some .int)) (by decide) rfl ?_
  intro p e s m args below meth c s₁ B9 hml hv
  obtain ⟨rfl, ⟨⟨hT, hH, hG⟩, hO⟩, hK, hN⟩ := hv
  have hx := B9.exec
  have hb := B9.bytes
  have hr := B9.returns
  have hts := atoms_spec (ws := wsL_many) B9.pre
  have hown : s.vm.findClass RL = some m.cls := findClass_of_methodNamed B9.named
  have hlocks := B9.notSynchronized
  have hS : va_S (zAo ad ad2 ob) s.heap s.heap [] := va_S.rf
  have hK5 : va_K (dC, dI) vwCl (zt ca) s := va_K.sub hK [0, 1, 2, 3, 4] rfl
  have hT : zT dC dI ca sf (ad 0) (ad2 0) s.heap := hT
  have hH : zW dC dI ca ad M s.heap := hH
  have hG : zW dC dI ca ad2 N s.heap := hG
  have hl := lv_entry ([.ref sf, .int a0, .ref ob]) (n := 4) (Nat.le_of_ble_eq_true rfl)
  rw [lg_entry_eq]
  generalize (lg_sl ([.ref sf, .int a0, .ref ob]) ++ List.replicate (4 - (lg_sl ([.ref sf, .int a0, .ref ob])).length) Slot.unset).toArray = ls at hl ⊢
  have hl : lv_has ls 4 [(0, .ref sf), (1, .int a0), (2, .ref ob)] := hl
  refine lv_aload_n hx hb dL_many_0 rfl (lv_at hl 2 rfl) ?_
  refine lv_iconst (v := 0) hx hb dL_many_1 (by decide) ?_
  refine lv_aload_n hx hb dL_many_2 rfl (lv_at hl 0 rfl) ?_
  refine lv_iload_n hx hb dL_many_3 rfl (lv_at hl 1 rfl) ?_
  refine z_cVi (D := (dC, dI)) (cl := vwCl) (tys := zt ca) (nw := zw_nest) (C := RX8) (As := [.int a0]) (rest := [.int 0, .ref ob]) ⟨hx, hb, hml, hown, hts⟩ (m_X8_many l dC dI ca sf ad hI ad2 hI2 hq M N a0 hOk0 r_a0) (cwV 1 hts gL_many_X8_many rfl rfl rfl (by decide +kernel) ⟨Nat.le_of_ble_eq_true rfl, Nat.le_of_ble_eq_true rfl⟩) (z_recv (ci := 8) (i := 0) hK5 hT rfl (by decide) rfl) ⟨hT, hH, hG⟩ hK5 hN zw_nest_ok rfl hl.1 rfl (Nat.le_of_ble_eq_true rfl) dL_many_4 ⟨Nat.le_refl _, Nat.le_refl _⟩ hS (fun _ h => Or.inl h) (fun H locs hB1 oq1 hz1 hS => ?_)
  have hO := va_at.kept hO (oq1 _ (va_at.lt hO) hob)
  refine lv_i2l hx hb dL_many_7 rfl ?_
  refine va_last hx hb hK (y_one hO) (yd_one (A := (zAo ad ad2 ob)) (Or.inr rfl)) hS 0 6 rfl rfl (zx (n := 0) (N := 1) (x := 0) rfl (by decide) (by decide)) dL_many_8 (fun H locs hO _ hS => ?_)
  have hO : yO dC dI ca ob (vp_updL f 0 (rX8_many M N a0).toInt64) H := hO 0 _ rfl
  refine lv_goto (tgt := 15) hx hb dL_many_9 (by decide) ?_
  refine lv_iconst (v := 0) hx hb dL_many_15 (by decide) ?_
  exact W.iret (v := 0) hx hb hr (fun t ht hW => ⟨⟨0, (), rfl, rfl, z_to (B := (fun H => yO dC dI ca ob (vp_updL f 0 (rX8_many M N a0).toInt64) H)) ht hO⟩, hS.F ht⟩) hS.2.2 dL_many_16
set_option maxHeartbeats 4000000 in
set_option maxRecDepth 100000 in
theorem m_L_wouldGivey (l : Launch) (dC : Nat → ClassId) (dI : Nat → Nat → Nat) (ca : Nat → ClassId) (sf : Nat) (ad : Nat → Nat) (hI : z_I zd ad) (ad2 : Nat → Nat) (hI2 : z_I zd ad2) (hq : zSep sf ad ad2) (ob : Nat) (hob : ¬ zA2 ad ad2 ob) (f : Nat → Int64) (M : zM) (N : zM) (a0 : Int32) (hOk0 : z_Ok M) (r_a0 : z_rg a0 1 30) (h_run : M 6 1 = 0 ∨ M 6 1 = 1) : Met l yL_wouldGive wsL_wouldGive ({ frames := 6, cells := 0, slots := 0, locals := 141 }) (z_Pc (dC, dI) vwCl (lt9 ca) zw_nest [.ref sf, .int a0, .ref ob] (fun H => (zT dC dI ca sf (ad 0) (ad2 0) H ∧ zW dC dI ca ad M H ∧ zW dC dI ca ad2 N H) ∧ yO dC dI ca ob f H)) (z_Qi 0 (fun H => yO dC dI ca ob (vp_updL f 0 (rX8_wouldGive M N a0).toInt64) H) (zAo ad ad2 ob)) 0 0 (zAo ad ad2 ob) := by
  refine va_MetW (cc := cL_wouldGive) (maxL := 4) (ret := (some .int)) (by decide) rfl ?_
  intro p e s m args below meth c s₁ B9 hml hv
  obtain ⟨rfl, ⟨⟨hT, hH, hG⟩, hO⟩, hK, hN⟩ := hv
  have hx := B9.exec
  have hb := B9.bytes
  have hr := B9.returns
  have hts := atoms_spec (ws := wsL_wouldGive) B9.pre
  have hown : s.vm.findClass RL = some m.cls := findClass_of_methodNamed B9.named
  have hlocks := B9.notSynchronized
  have hS : va_S (zAo ad ad2 ob) s.heap s.heap [] := va_S.rf
  have hK5 : va_K (dC, dI) vwCl (zt ca) s := va_K.sub hK [0, 1, 2, 3, 4] rfl
  have hT : zT dC dI ca sf (ad 0) (ad2 0) s.heap := hT
  have hH : zW dC dI ca ad M s.heap := hH
  have hG : zW dC dI ca ad2 N s.heap := hG
  have hl := lv_entry ([.ref sf, .int a0, .ref ob]) (n := 4) (Nat.le_of_ble_eq_true rfl)
  rw [lg_entry_eq]
  generalize (lg_sl ([.ref sf, .int a0, .ref ob]) ++ List.replicate (4 - (lg_sl ([.ref sf, .int a0, .ref ob])).length) Slot.unset).toArray = ls at hl ⊢
  have hl : lv_has ls 4 [(0, .ref sf), (1, .int a0), (2, .ref ob)] := hl
  refine lv_aload_n hx hb dL_wouldGive_0 rfl (lv_at hl 2 rfl) ?_
  refine lv_iconst (v := 0) hx hb dL_wouldGive_1 (by decide) ?_
  refine lv_aload_n hx hb dL_wouldGive_2 rfl (lv_at hl 0 rfl) ?_
  refine lv_iload_n hx hb dL_wouldGive_3 rfl (lv_at hl 1 rfl) ?_
  refine z_cVi (D := (dC, dI)) (cl := vwCl) (tys := zt ca) (nw := zw_nest) (C := RX8) (As := [.int a0]) (rest := [.int 0, .ref ob]) ⟨hx, hb, hml, hown, hts⟩ (m_X8_wouldGive l dC dI ca sf ad hI ad2 hI2 hq M N a0 hOk0 r_a0 h_run) (cwV 1 hts gL_wouldGive_X8_wouldGive rfl rfl rfl (by decide +kernel) ⟨Nat.le_of_ble_eq_true rfl, Nat.le_of_ble_eq_true rfl⟩) (z_recv (ci := 8) (i := 0) hK5 hT rfl (by decide) rfl) ⟨hT, hH, hG⟩ hK5 hN zw_nest_ok rfl hl.1 rfl (Nat.le_of_ble_eq_true rfl) dL_wouldGive_4 ⟨Nat.le_refl _, Nat.le_refl _⟩ hS (fun _ h => Or.inl h) (fun H locs hB1 oq1 hz1 hS => ?_)
  have hO := va_at.kept hO (oq1 _ (va_at.lt hO) hob)
  refine lv_i2l hx hb dL_wouldGive_7 rfl ?_
  refine va_last hx hb hK (y_one hO) (yd_one (A := (zAo ad ad2 ob)) (Or.inr rfl)) hS 0 6 rfl rfl (zx (n := 0) (N := 1) (x := 0) rfl (by decide) (by decide)) dL_wouldGive_8 (fun H locs hO _ hS => ?_)
  have hO : yO dC dI ca ob (vp_updL f 0 (rX8_wouldGive M N a0).toInt64) H := hO 0 _ rfl
  refine lv_goto (tgt := 15) hx hb dL_wouldGive_9 (by decide) ?_
  refine lv_iconst (v := 0) hx hb dL_wouldGive_15 (by decide) ?_
  exact W.iret (v := 0) hx hb hr (fun t ht hW => ⟨⟨0, (), rfl, rfl, z_to (B := (fun H => yO dC dI ca ob (vp_updL f 0 (rX8_wouldGive M N a0).toInt64) H)) ht hO⟩, hS.F ht⟩) hS.2.2 dL_wouldGive_16
set_option maxHeartbeats 4000000 in
set_option maxRecDepth 100000 in
theorem m_L_bestValvesy (l : Launch) (dC : Nat → ClassId) (dI : Nat → Nat → Nat) (ca : Nat → ClassId) (sf : Nat) (ad : Nat → Nat) (hI : z_I zd ad) (ad2 : Nat → Nat) (hI2 : z_I zd ad2) (hq : zSep sf ad ad2) (ob : Nat) (hob : ¬ zA2 ad ad2 ob) (f : Nat → Int64) (M : zM) (N : zM) (a0 : Int32) (hOk0 : z_Ok M) (r_a0 : z_rg a0 1 12) (h_run : M 6 1 = 0 ∨ M 6 1 = 1) : Met l yL_bestValves wsL_bestValves ({ frames := 6, cells := 0, slots := 0, locals := 148 }) (z_Pc (dC, dI) vwCl (lt9 ca) zw_nest [.ref sf, .int a0, .ref ob] (fun H => (zT dC dI ca sf (ad 0) (ad2 0) H ∧ zW dC dI ca ad M H ∧ zW dC dI ca ad2 N H) ∧ yO dC dI ca ob f H)) (z_Qi 0 (fun H => yO dC dI ca ob (vp_updL f 0 (rX8_bestValves M N a0).toInt64) H) (zAo ad ad2 ob)) 0 0 (zAo ad ad2 ob) := by
  refine va_MetW (cc := cL_bestValves) (maxL := 4) (ret := (some .int)) (by decide) rfl ?_
  intro p e s m args below meth c s₁ B9 hml hv
  obtain ⟨rfl, ⟨⟨hT, hH, hG⟩, hO⟩, hK, hN⟩ := hv
  have hx := B9.exec
  have hb := B9.bytes
  have hr := B9.returns
  have hts := atoms_spec (ws := wsL_bestValves) B9.pre
  have hown : s.vm.findClass RL = some m.cls := findClass_of_methodNamed B9.named
  have hlocks := B9.notSynchronized
  have hS : va_S (zAo ad ad2 ob) s.heap s.heap [] := va_S.rf
  have hK5 : va_K (dC, dI) vwCl (zt ca) s := va_K.sub hK [0, 1, 2, 3, 4] rfl
  have hT : zT dC dI ca sf (ad 0) (ad2 0) s.heap := hT
  have hH : zW dC dI ca ad M s.heap := hH
  have hG : zW dC dI ca ad2 N s.heap := hG
  have hl := lv_entry ([.ref sf, .int a0, .ref ob]) (n := 4) (Nat.le_of_ble_eq_true rfl)
  rw [lg_entry_eq]
  generalize (lg_sl ([.ref sf, .int a0, .ref ob]) ++ List.replicate (4 - (lg_sl ([.ref sf, .int a0, .ref ob])).length) Slot.unset).toArray = ls at hl ⊢
  have hl : lv_has ls 4 [(0, .ref sf), (1, .int a0), (2, .ref ob)] := hl
  refine lv_aload_n hx hb dL_bestValves_0 rfl (lv_at hl 2 rfl) ?_
  refine lv_iconst (v := 0) hx hb dL_bestValves_1 (by decide) ?_
  refine lv_aload_n hx hb dL_bestValves_2 rfl (lv_at hl 0 rfl) ?_
  refine lv_iload_n hx hb dL_bestValves_3 rfl (lv_at hl 1 rfl) ?_
  refine z_cVi (D := (dC, dI)) (cl := vwCl) (tys := zt ca) (nw := zw_nest) (C := RX8) (As := [.int a0]) (rest := [.int 0, .ref ob]) ⟨hx, hb, hml, hown, hts⟩ (m_X8_bestValves l dC dI ca sf ad hI ad2 hI2 hq M N a0 hOk0 r_a0 h_run) (cwV 1 hts gL_bestValves_X8_bestValves rfl rfl rfl (by decide +kernel) ⟨Nat.le_of_ble_eq_true rfl, Nat.le_of_ble_eq_true rfl⟩) (z_recv (ci := 8) (i := 0) hK5 hT rfl (by decide) rfl) ⟨hT, hH, hG⟩ hK5 hN zw_nest_ok rfl hl.1 rfl (Nat.le_of_ble_eq_true rfl) dL_bestValves_4 ⟨Nat.le_refl _, Nat.le_refl _⟩ hS (fun _ h => Or.inl h) (fun H locs hB1 oq1 hz1 hS => ?_)
  have hO := va_at.kept hO (oq1 _ (va_at.lt hO) hob)
  refine lv_i2l hx hb dL_bestValves_7 rfl ?_
  refine va_last hx hb hK (y_one hO) (yd_one (A := (zAo ad ad2 ob)) (Or.inr rfl)) hS 0 6 rfl rfl (zx (n := 0) (N := 1) (x := 0) rfl (by decide) (by decide)) dL_bestValves_8 (fun H locs hO _ hS => ?_)
  have hO : yO dC dI ca ob (vp_updL f 0 (rX8_bestValves M N a0).toInt64) H := hO 0 _ rfl
  refine lv_goto (tgt := 15) hx hb dL_bestValves_9 (by decide) ?_
  refine lv_iconst (v := 0) hx hb dL_bestValves_15 (by decide) ?_
  exact W.iret (v := 0) hx hb hr (fun t ht hW => ⟨⟨0, (), rfl, rfl, z_to (B := (fun H => yO dC dI ca ob (vp_updL f 0 (rX8_bestValves M N a0).toInt64) H)) ht hO⟩, hS.F ht⟩) hS.2.2 dL_bestValves_16
