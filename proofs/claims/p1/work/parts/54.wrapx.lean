set_option maxHeartbeats 4000000 in
set_option maxRecDepth 100000 in
theorem m_L_blockx (l : Launch) (hl9 : l.stackTraces = false) (dC : Nat → ClassId) (dI : Nat → Nat → Nat) (ca : Nat → ClassId) (sf : Nat) (ad : Nat → Nat) (ad2 : Nat → Nat) (ob : Nat) (M : zM) (N : zM) (a0 a1 a2 a3 a4 : Int32) (h_n : ¬ (z_rg a0 10 99 ∧ z_rg a1 0 1 ∧ z_rg a2 0 2000 ∧ z_rg a3 0 400 ∧ z_rg a4 0 9999)) : Met l yL_block wsL_block ({ frames := 8, cells := 1, slots := 6, locals := 131 }) (z_P9 (dC, dI) vwCl (lt9 ca) zw_nest [.ref sf, .int a0, .int a1, .int a2, .int a3, .int a4, .ref ob] zFa (fun H => zT dC dI ca sf (ad 0) (ad2 0) H ∧ zW dC dI ca ad M H ∧ zW dC dI ca ad2 N H)) (z_Qi 1 (fun _ => True) zFa) 1 6 zFa := by
  refine va_MetW (cc := cL_block) (maxL := 8) (ret := (some .int)) (by decide) rfl ?_
  intro p e s m args below meth c s₁ B9 hml hv
  obtain ⟨rfl, ⟨hT, hH, hG⟩, hK, hN, hEx⟩ := hv
  have hx := B9.exec
  have hb := B9.bytes
  have hr := B9.returns
  have hts := atoms_spec (ws := wsL_block) B9.pre
  have hown : s.vm.findClass RL = some m.cls := findClass_of_methodNamed B9.named
  have hlocks := B9.notSynchronized
  have hS : va_S zFa s.heap s.heap [] := va_S.rf
  have hK5 : va_K (dC, dI) vwCl (zt ca) s := va_K.sub hK [0, 1, 2, 3, 4] rfl
  have hT : zT dC dI ca sf (ad 0) (ad2 0) s.heap := hT
  have hH : zW dC dI ca ad M s.heap := hH
  have hG : zW dC dI ca ad2 N s.heap := hG
  have hl := lv_entry ([.ref sf, .int a0, .int a1, .int a2, .int a3, .int a4, .ref ob]) (n := 8) (Nat.le_of_ble_eq_true rfl)
  rw [lg_entry_eq]
  generalize (lg_sl ([.ref sf, .int a0, .int a1, .int a2, .int a3, .int a4, .ref ob]) ++ List.replicate (8 - (lg_sl ([.ref sf, .int a0, .int a1, .int a2, .int a3, .int a4, .ref ob])).length) Slot.unset).toArray = ls at hl ⊢
  have hl : lv_has ls 8 [(0, .ref sf), (1, .int a0), (2, .int a1), (3, .int a2), (4, .int a3), (5, .int a4), (6, .ref ob)] := hl
  have htab : c.exceptionTable.toList = [] ++ ⟨0, 16, 19, 13⟩ :: [⟨0, 16, 23, 15⟩] := vx_table (x := yL_block) B9 (hts _ List.mem_cons_self)
  refine lv_aload hx hb dL_block_0 (lv_at hl 6 rfl) ?_
  refine lv_iconst (v := 0) hx hb dL_block_2 (by decide) ?_
  refine lv_aload_n hx hb dL_block_3 rfl (lv_at hl 0 rfl) ?_
  refine lv_iload_n hx hb dL_block_4 rfl (lv_at hl 1 rfl) ?_
  refine lv_iload_n hx hb dL_block_5 rfl (lv_at hl 2 rfl) ?_
  refine lv_iload_n hx hb dL_block_6 rfl (lv_at hl 3 rfl) ?_
  refine lv_iload hx hb dL_block_7 (lv_at hl 4 rfl) ?_
  refine lv_iload hx hb dL_block_9 (lv_at hl 5 rfl) ?_
  refine z_cV9 (D := (dC, dI)) (cl := vwCl) (tys := zt ca) (nw := zw_nest) (C := RX8) (As := [.int a0, .int a1, .int a2, .int a3, .int a4]) (rest := [.int 0, .ref ob]) ⟨hx, hb, hml, hown, hts⟩ (m_X8_blockx l hl9 dC dI ca sf ad ad2 M N a0 a1 a2 a3 a4 h_n) (cwV 5 hts gL_block_X8_block rfl rfl rfl (by decide +kernel) ⟨Nat.le_of_ble_eq_true rfl, Nat.le_of_ble_eq_true rfl⟩) (z_recv (ci := 8) (i := 0) hK5 hT rfl (by decide) rfl) ⟨hT, hH, hG⟩ hK5 hN hEx zw_nest_ok rfl hl.1 rfl (Nat.le_of_ble_eq_true rfl) dL_block_11 ⟨Nat.le_of_ble_eq_true rfl, Nat.le_of_ble_eq_true rfl⟩ hS (fun ce q9 H locs hS hce hcv hcl => ?_)
  refine vx_catch (own := RL) (name := zIAE) (E := zIAE) hown [] ⟨0, 16, 19, 13⟩ [⟨0, 16, 23, 15⟩] htab (fun z hz => absurd hz List.not_mem_nil) (by decide) (by decide) (hts (.classLink RL 13 zIAE) (by decide +kernel)) (va_Nw.use rfl (hEx.2.2.2.2.1 _ (by decide +kernel))) hce hcv hcl ?_
  refine lv_astore (lv' := [(7, .ref q9), (0, .ref sf), (1, .int a0), (2, .int a1), (3, .int a2), (4, .int a3), (5, .int a4), (6, .ref ob)]) hx hb dL_block_19 hl (by decide) rfl (fun ls hl => ?_)
  refine lv_iconst (v := 1) hx hb dL_block_21 (by decide) ?_
  exact W.iret (v := 1) hx hb hr (fun t ht hW => ⟨⟨1, (), rfl, rfl, trivial⟩, hS.F ht⟩) hS.2.2 dL_block_22
set_option maxHeartbeats 4000000 in
set_option maxRecDepth 100000 in
theorem m_L_facex (l : Launch) (hl9 : l.stackTraces = false) (dC : Nat → ClassId) (dI : Nat → Nat → Nat) (ca : Nat → ClassId) (sf : Nat) (ad : Nat → Nat) (ad2 : Nat → Nat) (ob : Nat) (M : zM) (N : zM) (a0 a1 a2 : Int32) (h_n : ¬ z_ni a0 (M 0 10)) : Met l yL_face wsL_face ({ frames := 8, cells := 1, slots := 6, locals := 128 }) (z_P9 (dC, dI) vwCl (lt9 ca) zw_nest [.ref sf, .int a0, .int a1, .int a2, .ref ob] zFa (fun H => zT dC dI ca sf (ad 0) (ad2 0) H ∧ zW dC dI ca ad M H ∧ zW dC dI ca ad2 N H)) (z_Qi 1 (fun _ => True) zFa) 1 6 zFa := by
  refine va_MetW (cc := cL_face) (maxL := 6) (ret := (some .int)) (by decide) rfl ?_
  intro p e s m args below meth c s₁ B9 hml hv
  obtain ⟨rfl, ⟨hT, hH, hG⟩, hK, hN, hEx⟩ := hv
  have hx := B9.exec
  have hb := B9.bytes
  have hr := B9.returns
  have hts := atoms_spec (ws := wsL_face) B9.pre
  have hown : s.vm.findClass RL = some m.cls := findClass_of_methodNamed B9.named
  have hlocks := B9.notSynchronized
  have hS : va_S zFa s.heap s.heap [] := va_S.rf
  have hK5 : va_K (dC, dI) vwCl (zt ca) s := va_K.sub hK [0, 1, 2, 3, 4] rfl
  have hT : zT dC dI ca sf (ad 0) (ad2 0) s.heap := hT
  have hH : zW dC dI ca ad M s.heap := hH
  have hG : zW dC dI ca ad2 N s.heap := hG
  have hl := lv_entry ([.ref sf, .int a0, .int a1, .int a2, .ref ob]) (n := 6) (Nat.le_of_ble_eq_true rfl)
  rw [lg_entry_eq]
  generalize (lg_sl ([.ref sf, .int a0, .int a1, .int a2, .ref ob]) ++ List.replicate (6 - (lg_sl ([.ref sf, .int a0, .int a1, .int a2, .ref ob])).length) Slot.unset).toArray = ls at hl ⊢
  have hl : lv_has ls 6 [(0, .ref sf), (1, .int a0), (2, .int a1), (3, .int a2), (4, .ref ob)] := hl
  have htab : c.exceptionTable.toList = [] ++ ⟨0, 12, 15, 21⟩ :: [⟨0, 12, 19, 13⟩, ⟨0, 12, 23, 15⟩] := vx_table (x := yL_face) B9 (hts _ List.mem_cons_self)
  refine lv_aload hx hb dL_face_0 (lv_at hl 4 rfl) ?_
  refine lv_iconst (v := 0) hx hb dL_face_2 (by decide) ?_
  refine lv_aload_n hx hb dL_face_3 rfl (lv_at hl 0 rfl) ?_
  refine lv_iload_n hx hb dL_face_4 rfl (lv_at hl 1 rfl) ?_
  refine lv_iload_n hx hb dL_face_5 rfl (lv_at hl 2 rfl) ?_
  refine lv_iload_n hx hb dL_face_6 rfl (lv_at hl 3 rfl) ?_
  refine z_cV9 (D := (dC, dI)) (cl := vwCl) (tys := zt ca) (nw := zw_nest) (C := RX8) (As := [.int a0, .int a1, .int a2]) (rest := [.int 0, .ref ob]) ⟨hx, hb, hml, hown, hts⟩ (m_X8_facex l hl9 dC dI ca sf ad ad2 M N a0 a1 a2 h_n) (cwV 3 hts gL_face_X8_face rfl rfl rfl (by decide +kernel) ⟨Nat.le_of_ble_eq_true rfl, Nat.le_of_ble_eq_true rfl⟩) (z_recv (ci := 8) (i := 0) hK5 hT rfl (by decide) rfl) ⟨hT, hH, hG⟩ hK5 hN hEx zw_nest_ok rfl hl.1 rfl (Nat.le_of_ble_eq_true rfl) dL_face_7 ⟨Nat.le_of_ble_eq_true rfl, Nat.le_of_ble_eq_true rfl⟩ hS (fun ce q9 H locs hS hce hcv hcl => ?_)
  refine vx_catch (own := RL) (name := zIOB) (E := zIOB) hown [] ⟨0, 12, 15, 21⟩ [⟨0, 12, 19, 13⟩, ⟨0, 12, 23, 15⟩] htab (fun z hz => absurd hz List.not_mem_nil) (by decide) (by decide) (hts (.classLink RL 21 zIOB) (by decide +kernel)) (va_Nw.use rfl (hEx.2.2.2.2.1 _ (by decide +kernel))) hce hcv hcl ?_
  refine lv_astore (lv' := [(5, .ref q9), (0, .ref sf), (1, .int a0), (2, .int a1), (3, .int a2), (4, .ref ob)]) hx hb dL_face_15 hl (by decide) rfl (fun ls hl => ?_)
  refine lv_iconst (v := 1) hx hb dL_face_17 (by decide) ?_
  exact W.iret (v := 1) hx hb hr (fun t ht hW => ⟨⟨1, (), rfl, rfl, trivial⟩, hS.F ht⟩) hS.2.2 dL_face_18
set_option maxHeartbeats 4000000 in
set_option maxRecDepth 100000 in
theorem m_L_wellx (l : Launch) (hl9 : l.stackTraces = false) (dC : Nat → ClassId) (dI : Nat → Nat → Nat) (ca : Nat → ClassId) (sf : Nat) (ad : Nat → Nat) (ad2 : Nat → Nat) (ob : Nat) (M : zM) (N : zM) (a0 a1 : Int32) (h_n : ¬ z_ni a0 (M 0 10)) : Met l yL_well wsL_well ({ frames := 8, cells := 1, slots := 6, locals := 127 }) (z_P9 (dC, dI) vwCl (lt9 ca) zw_nest [.ref sf, .int a0, .int a1, .ref ob] zFa (fun H => zT dC dI ca sf (ad 0) (ad2 0) H ∧ zW dC dI ca ad M H ∧ zW dC dI ca ad2 N H)) (z_Qi 1 (fun _ => True) zFa) 1 6 zFa := by
  refine va_MetW (cc := cL_well) (maxL := 5) (ret := (some .int)) (by decide) rfl ?_
  intro p e s m args below meth c s₁ B9 hml hv
  obtain ⟨rfl, ⟨hT, hH, hG⟩, hK, hN, hEx⟩ := hv
  have hx := B9.exec
  have hb := B9.bytes
  have hr := B9.returns
  have hts := atoms_spec (ws := wsL_well) B9.pre
  have hown : s.vm.findClass RL = some m.cls := findClass_of_methodNamed B9.named
  have hlocks := B9.notSynchronized
  have hS : va_S zFa s.heap s.heap [] := va_S.rf
  have hK5 : va_K (dC, dI) vwCl (zt ca) s := va_K.sub hK [0, 1, 2, 3, 4] rfl
  have hT : zT dC dI ca sf (ad 0) (ad2 0) s.heap := hT
  have hH : zW dC dI ca ad M s.heap := hH
  have hG : zW dC dI ca ad2 N s.heap := hG
  have hl := lv_entry ([.ref sf, .int a0, .int a1, .ref ob]) (n := 5) (Nat.le_of_ble_eq_true rfl)
  rw [lg_entry_eq]
  generalize (lg_sl ([.ref sf, .int a0, .int a1, .ref ob]) ++ List.replicate (5 - (lg_sl ([.ref sf, .int a0, .int a1, .ref ob])).length) Slot.unset).toArray = ls at hl ⊢
  have hl : lv_has ls 5 [(0, .ref sf), (1, .int a0), (2, .int a1), (3, .ref ob)] := hl
  have htab : c.exceptionTable.toList = [] ++ ⟨0, 10, 13, 21⟩ :: [⟨0, 10, 17, 15⟩] := vx_table (x := yL_well) B9 (hts _ List.mem_cons_self)
  refine lv_aload_n hx hb dL_well_0 rfl (lv_at hl 3 rfl) ?_
  refine lv_iconst (v := 0) hx hb dL_well_1 (by decide) ?_
  refine lv_aload_n hx hb dL_well_2 rfl (lv_at hl 0 rfl) ?_
  refine lv_iload_n hx hb dL_well_3 rfl (lv_at hl 1 rfl) ?_
  refine lv_iload_n hx hb dL_well_4 rfl (lv_at hl 2 rfl) ?_
  refine z_cV9 (D := (dC, dI)) (cl := vwCl) (tys := zt ca) (nw := zw_nest) (C := RX8) (As := [.int a0, .int a1]) (rest := [.int 0, .ref ob]) ⟨hx, hb, hml, hown, hts⟩ (m_X8_wellx l hl9 dC dI ca sf ad ad2 M N a0 a1 h_n) (cwV 2 hts gL_well_X8_well rfl rfl rfl (by decide +kernel) ⟨Nat.le_of_ble_eq_true rfl, Nat.le_of_ble_eq_true rfl⟩) (z_recv (ci := 8) (i := 0) hK5 hT rfl (by decide) rfl) ⟨hT, hH, hG⟩ hK5 hN hEx zw_nest_ok rfl hl.1 rfl (Nat.le_of_ble_eq_true rfl) dL_well_5 ⟨Nat.le_of_ble_eq_true rfl, Nat.le_of_ble_eq_true rfl⟩ hS (fun ce q9 H locs hS hce hcv hcl => ?_)
  refine vx_catch (own := RL) (name := zIOB) (E := zIOB) hown [] ⟨0, 10, 13, 21⟩ [⟨0, 10, 17, 15⟩] htab (fun z hz => absurd hz List.not_mem_nil) (by decide) (by decide) (hts (.classLink RL 21 zIOB) (by decide +kernel)) (va_Nw.use rfl (hEx.2.2.2.2.1 _ (by decide +kernel))) hce hcv hcl ?_
  refine lv_astore (lv' := [(4, .ref q9), (0, .ref sf), (1, .int a0), (2, .int a1), (3, .ref ob)]) hx hb dL_well_13 hl (by decide) rfl (fun ls hl => ?_)
  refine lv_iconst (v := 1) hx hb dL_well_15 (by decide) ?_
  exact W.iret (v := 1) hx hb hr (fun t ht hW => ⟨⟨1, (), rfl, rfl, trivial⟩, hS.F ht⟩) hS.2.2 dL_well_16
set_option maxHeartbeats 4000000 in
set_option maxRecDepth 100000 in
theorem m_L_springx (l : Launch) (hl9 : l.stackTraces = false) (dC : Nat → ClassId) (dI : Nat → Nat → Nat) (ca : Nat → ClassId) (sf : Nat) (ad : Nat → Nat) (ad2 : Nat → Nat) (ob : Nat) (M : zM) (N : zM) (a0 a1 a2 : Int32) (h_n : ¬ z_ni a0 (M 0 10)) : Met l yL_spring wsL_spring ({ frames := 8, cells := 1, slots := 6, locals := 128 }) (z_P9 (dC, dI) vwCl (lt9 ca) zw_nest [.ref sf, .int a0, .int a1, .int a2, .ref ob] zFa (fun H => zT dC dI ca sf (ad 0) (ad2 0) H ∧ zW dC dI ca ad M H ∧ zW dC dI ca ad2 N H)) (z_Qi 1 (fun _ => True) zFa) 1 6 zFa := by
  refine va_MetW (cc := cL_spring) (maxL := 6) (ret := (some .int)) (by decide) rfl ?_
  intro p e s m args below meth c s₁ B9 hml hv
  obtain ⟨rfl, ⟨hT, hH, hG⟩, hK, hN, hEx⟩ := hv
  have hx := B9.exec
  have hb := B9.bytes
  have hr := B9.returns
  have hts := atoms_spec (ws := wsL_spring) B9.pre
  have hown : s.vm.findClass RL = some m.cls := findClass_of_methodNamed B9.named
  have hlocks := B9.notSynchronized
  have hS : va_S zFa s.heap s.heap [] := va_S.rf
  have hK5 : va_K (dC, dI) vwCl (zt ca) s := va_K.sub hK [0, 1, 2, 3, 4] rfl
  have hT : zT dC dI ca sf (ad 0) (ad2 0) s.heap := hT
  have hH : zW dC dI ca ad M s.heap := hH
  have hG : zW dC dI ca ad2 N s.heap := hG
  have hl := lv_entry ([.ref sf, .int a0, .int a1, .int a2, .ref ob]) (n := 6) (Nat.le_of_ble_eq_true rfl)
  rw [lg_entry_eq]
  generalize (lg_sl ([.ref sf, .int a0, .int a1, .int a2, .ref ob]) ++ List.replicate (6 - (lg_sl ([.ref sf, .int a0, .int a1, .int a2, .ref ob])).length) Slot.unset).toArray = ls at hl ⊢
  have hl : lv_has ls 6 [(0, .ref sf), (1, .int a0), (2, .int a1), (3, .int a2), (4, .ref ob)] := hl
  have htab : c.exceptionTable.toList = [] ++ ⟨0, 12, 15, 21⟩ :: [⟨0, 12, 19, 13⟩, ⟨0, 12, 23, 15⟩] := vx_table (x := yL_spring) B9 (hts _ List.mem_cons_self)
  refine lv_aload hx hb dL_spring_0 (lv_at hl 4 rfl) ?_
  refine lv_iconst (v := 0) hx hb dL_spring_2 (by decide) ?_
  refine lv_aload_n hx hb dL_spring_3 rfl (lv_at hl 0 rfl) ?_
  refine lv_iload_n hx hb dL_spring_4 rfl (lv_at hl 1 rfl) ?_
  refine lv_iload_n hx hb dL_spring_5 rfl (lv_at hl 2 rfl) ?_
  refine lv_iload_n hx hb dL_spring_6 rfl (lv_at hl 3 rfl) ?_
  refine z_cV9 (D := (dC, dI)) (cl := vwCl) (tys := zt ca) (nw := zw_nest) (C := RX8) (As := [.int a0, .int a1, .int a2]) (rest := [.int 0, .ref ob]) ⟨hx, hb, hml, hown, hts⟩ (m_X8_springx l hl9 dC dI ca sf ad ad2 M N a0 a1 a2 h_n) (cwV 3 hts gL_spring_X8_spring rfl rfl rfl (by decide +kernel) ⟨Nat.le_of_ble_eq_true rfl, Nat.le_of_ble_eq_true rfl⟩) (z_recv (ci := 8) (i := 0) hK5 hT rfl (by decide) rfl) ⟨hT, hH, hG⟩ hK5 hN hEx zw_nest_ok rfl hl.1 rfl (Nat.le_of_ble_eq_true rfl) dL_spring_7 ⟨Nat.le_of_ble_eq_true rfl, Nat.le_of_ble_eq_true rfl⟩ hS (fun ce q9 H locs hS hce hcv hcl => ?_)
  refine vx_catch (own := RL) (name := zIOB) (E := zIOB) hown [] ⟨0, 12, 15, 21⟩ [⟨0, 12, 19, 13⟩, ⟨0, 12, 23, 15⟩] htab (fun z hz => absurd hz List.not_mem_nil) (by decide) (by decide) (hts (.classLink RL 21 zIOB) (by decide +kernel)) (va_Nw.use rfl (hEx.2.2.2.2.1 _ (by decide +kernel))) hce hcv hcl ?_
  refine lv_astore (lv' := [(5, .ref q9), (0, .ref sf), (1, .int a0), (2, .int a1), (3, .int a2), (4, .ref ob)]) hx hb dL_spring_15 hl (by decide) rfl (fun ls hl => ?_)
  refine lv_iconst (v := 1) hx hb dL_spring_17 (by decide) ?_
  exact W.iret (v := 1) hx hb hr (fun t ht hW => ⟨⟨1, (), rfl, rfl, trivial⟩, hS.F ht⟩) hS.2.2 dL_spring_18
set_option maxHeartbeats 4000000 in
set_option maxRecDepth 100000 in
theorem m_L_valvex (l : Launch) (hl9 : l.stackTraces = false) (dC : Nat → ClassId) (dI : Nat → Nat → Nat) (ca : Nat → ClassId) (sf : Nat) (ad : Nat → Nat) (ad2 : Nat → Nat) (ob : Nat) (M : zM) (N : zM) (a0 a1 : Int32) (h_n : ¬ z_ni a0 (M 0 12)) : Met l yL_valve wsL_valve ({ frames := 8, cells := 1, slots := 6, locals := 126 }) (z_P9 (dC, dI) vwCl (lt9 ca) zw_nest [.ref sf, .int a0, .int a1, .ref ob] zFa (fun H => zT dC dI ca sf (ad 0) (ad2 0) H ∧ zW dC dI ca ad M H ∧ zW dC dI ca ad2 N H)) (z_Qi 1 (fun _ => True) zFa) 1 6 zFa := by
  refine va_MetW (cc := cL_valve) (maxL := 5) (ret := (some .int)) (by decide) rfl ?_
  intro p e s m args below meth c s₁ B9 hml hv
  obtain ⟨rfl, ⟨hT, hH, hG⟩, hK, hN, hEx⟩ := hv
  have hx := B9.exec
  have hb := B9.bytes
  have hr := B9.returns
  have hts := atoms_spec (ws := wsL_valve) B9.pre
  have hown : s.vm.findClass RL = some m.cls := findClass_of_methodNamed B9.named
  have hlocks := B9.notSynchronized
  have hS : va_S zFa s.heap s.heap [] := va_S.rf
  have hK5 : va_K (dC, dI) vwCl (zt ca) s := va_K.sub hK [0, 1, 2, 3, 4] rfl
  have hT : zT dC dI ca sf (ad 0) (ad2 0) s.heap := hT
  have hH : zW dC dI ca ad M s.heap := hH
  have hG : zW dC dI ca ad2 N s.heap := hG
  have hl := lv_entry ([.ref sf, .int a0, .int a1, .ref ob]) (n := 5) (Nat.le_of_ble_eq_true rfl)
  rw [lg_entry_eq]
  generalize (lg_sl ([.ref sf, .int a0, .int a1, .ref ob]) ++ List.replicate (5 - (lg_sl ([.ref sf, .int a0, .int a1, .ref ob])).length) Slot.unset).toArray = ls at hl ⊢
  have hl : lv_has ls 5 [(0, .ref sf), (1, .int a0), (2, .int a1), (3, .ref ob)] := hl
  have htab : c.exceptionTable.toList = [] ++ ⟨0, 10, 13, 21⟩ :: [⟨0, 10, 17, 13⟩] := vx_table (x := yL_valve) B9 (hts _ List.mem_cons_self)
  refine lv_aload_n hx hb dL_valve_0 rfl (lv_at hl 3 rfl) ?_
  refine lv_iconst (v := 0) hx hb dL_valve_1 (by decide) ?_
  refine lv_aload_n hx hb dL_valve_2 rfl (lv_at hl 0 rfl) ?_
  refine lv_iload_n hx hb dL_valve_3 rfl (lv_at hl 1 rfl) ?_
  refine lv_iload_n hx hb dL_valve_4 rfl (lv_at hl 2 rfl) ?_
  refine z_cV9 (D := (dC, dI)) (cl := vwCl) (tys := zt ca) (nw := zw_nest) (C := RX8) (As := [.int a0, .int a1]) (rest := [.int 0, .ref ob]) ⟨hx, hb, hml, hown, hts⟩ (m_X8_valvex l hl9 dC dI ca sf ad ad2 M N a0 a1 h_n) (cwV 2 hts gL_valve_X8_valve rfl rfl rfl (by decide +kernel) ⟨Nat.le_of_ble_eq_true rfl, Nat.le_of_ble_eq_true rfl⟩) (z_recv (ci := 8) (i := 0) hK5 hT rfl (by decide) rfl) ⟨hT, hH, hG⟩ hK5 hN hEx zw_nest_ok rfl hl.1 rfl (Nat.le_of_ble_eq_true rfl) dL_valve_5 ⟨Nat.le_of_ble_eq_true rfl, Nat.le_of_ble_eq_true rfl⟩ hS (fun ce q9 H locs hS hce hcv hcl => ?_)
  refine vx_catch (own := RL) (name := zIOB) (E := zIOB) hown [] ⟨0, 10, 13, 21⟩ [⟨0, 10, 17, 13⟩] htab (fun z hz => absurd hz List.not_mem_nil) (by decide) (by decide) (hts (.classLink RL 21 zIOB) (by decide +kernel)) (va_Nw.use rfl (hEx.2.2.2.2.1 _ (by decide +kernel))) hce hcv hcl ?_
  refine lv_astore (lv' := [(4, .ref q9), (0, .ref sf), (1, .int a0), (2, .int a1), (3, .ref ob)]) hx hb dL_valve_13 hl (by decide) rfl (fun ls hl => ?_)
  refine lv_iconst (v := 1) hx hb dL_valve_15 (by decide) ?_
  exact W.iret (v := 1) hx hb hr (fun t ht hW => ⟨⟨1, (), rfl, rfl, trivial⟩, hS.F ht⟩) hS.2.2 dL_valve_16
set_option maxHeartbeats 4000000 in
set_option maxRecDepth 100000 in
theorem m_L_tracex (l : Launch) (hl9 : l.stackTraces = false) (dC : Nat → ClassId) (dI : Nat → Nat → Nat) (ca : Nat → ClassId) (sf : Nat) (ad : Nat → Nat) (ad2 : Nat → Nat) (ob : Nat) (M : zM) (N : zM) (a0 a1 : Int32) (h_n : ¬ z_ni a0 (M 0 12)) : Met l yL_trace wsL_trace ({ frames := 8, cells := 1, slots := 6, locals := 126 }) (z_P9 (dC, dI) vwCl (lt9 ca) zw_nest [.ref sf, .int a0, .int a1, .ref ob] zFa (fun H => zT dC dI ca sf (ad 0) (ad2 0) H ∧ zW dC dI ca ad M H ∧ zW dC dI ca ad2 N H)) (z_Qi 1 (fun _ => True) zFa) 1 6 zFa := by
  refine va_MetW (cc := cL_trace) (maxL := 5) (ret := (some .int)) (by decide) rfl ?_
  intro p e s m args below meth c s₁ B9 hml hv
  obtain ⟨rfl, ⟨hT, hH, hG⟩, hK, hN, hEx⟩ := hv
  have hx := B9.exec
  have hb := B9.bytes
  have hr := B9.returns
  have hts := atoms_spec (ws := wsL_trace) B9.pre
  have hown : s.vm.findClass RL = some m.cls := findClass_of_methodNamed B9.named
  have hlocks := B9.notSynchronized
  have hS : va_S zFa s.heap s.heap [] := va_S.rf
  have hK5 : va_K (dC, dI) vwCl (zt ca) s := va_K.sub hK [0, 1, 2, 3, 4] rfl
  have hT : zT dC dI ca sf (ad 0) (ad2 0) s.heap := hT
  have hH : zW dC dI ca ad M s.heap := hH
  have hG : zW dC dI ca ad2 N s.heap := hG
  have hl := lv_entry ([.ref sf, .int a0, .int a1, .ref ob]) (n := 5) (Nat.le_of_ble_eq_true rfl)
  rw [lg_entry_eq]
  generalize (lg_sl ([.ref sf, .int a0, .int a1, .ref ob]) ++ List.replicate (5 - (lg_sl ([.ref sf, .int a0, .int a1, .ref ob])).length) Slot.unset).toArray = ls at hl ⊢
  have hl : lv_has ls 5 [(0, .ref sf), (1, .int a0), (2, .int a1), (3, .ref ob)] := hl
  have htab : c.exceptionTable.toList = [] ++ ⟨0, 10, 13, 21⟩ :: [⟨0, 10, 17, 13⟩, ⟨0, 10, 21, 15⟩] := vx_table (x := yL_trace) B9 (hts _ List.mem_cons_self)
  refine lv_aload_n hx hb dL_trace_0 rfl (lv_at hl 3 rfl) ?_
  refine lv_iconst (v := 0) hx hb dL_trace_1 (by decide) ?_
  refine lv_aload_n hx hb dL_trace_2 rfl (lv_at hl 0 rfl) ?_
  refine lv_iload_n hx hb dL_trace_3 rfl (lv_at hl 1 rfl) ?_
  refine lv_iload_n hx hb dL_trace_4 rfl (lv_at hl 2 rfl) ?_
  refine z_cV9 (D := (dC, dI)) (cl := vwCl) (tys := zt ca) (nw := zw_nest) (C := RX8) (As := [.int a0, .int a1]) (rest := [.int 0, .ref ob]) ⟨hx, hb, hml, hown, hts⟩ (m_X8_tracex l hl9 dC dI ca sf ad ad2 M N a0 a1 h_n) (cwV 2 hts gL_trace_X8_trace rfl rfl rfl (by decide +kernel) ⟨Nat.le_of_ble_eq_true rfl, Nat.le_of_ble_eq_true rfl⟩) (z_recv (ci := 8) (i := 0) hK5 hT rfl (by decide) rfl) ⟨hT, hH, hG⟩ hK5 hN hEx zw_nest_ok rfl hl.1 rfl (Nat.le_of_ble_eq_true rfl) dL_trace_5 ⟨Nat.le_of_ble_eq_true rfl, Nat.le_of_ble_eq_true rfl⟩ hS (fun ce q9 H locs hS hce hcv hcl => ?_)
  refine vx_catch (own := RL) (name := zIOB) (E := zIOB) hown [] ⟨0, 10, 13, 21⟩ [⟨0, 10, 17, 13⟩, ⟨0, 10, 21, 15⟩] htab (fun z hz => absurd hz List.not_mem_nil) (by decide) (by decide) (hts (.classLink RL 21 zIOB) (by decide +kernel)) (va_Nw.use rfl (hEx.2.2.2.2.1 _ (by decide +kernel))) hce hcv hcl ?_
  refine lv_astore (lv' := [(4, .ref q9), (0, .ref sf), (1, .int a0), (2, .int a1), (3, .ref ob)]) hx hb dL_trace_13 hl (by decide) rfl (fun ls hl => ?_)
  refine lv_iconst (v := 1) hx hb dL_trace_15 (by decide) ?_
  exact W.iret (v := 1) hx hb hr (fun t ht hW => ⟨⟨1, (), rfl, rfl, trivial⟩, hS.F ht⟩) hS.2.2 dL_trace_16
set_option maxHeartbeats 4000000 in
set_option maxRecDepth 100000 in
theorem m_L_cleanx (l : Launch) (hl9 : l.stackTraces = false) (dC : Nat → ClassId) (dI : Nat → Nat → Nat) (ca : Nat → ClassId) (sf : Nat) (ad : Nat → Nat) (ad2 : Nat → Nat) (ob : Nat) (M : zM) (N : zM) (a0 : Int32) (h_n : ¬ z_ni a0 (M 0 12)) : Met l yL_clean wsL_clean ({ frames := 8, cells := 1, slots := 6, locals := 128 }) (z_P9 (dC, dI) vwCl (lt9 ca) zw_nest [.ref sf, .int a0, .ref ob] zFa (fun H => zT dC dI ca sf (ad 0) (ad2 0) H ∧ zW dC dI ca ad M H ∧ zW dC dI ca ad2 N H)) (z_Qi 1 (fun _ => True) zFa) 1 6 zFa := by
  refine va_MetW (cc := cL_clean) (maxL := 4) (ret := (some .int)) (by decide) rfl ?_
  intro p e s m args below meth c s₁ B9 hml hv
  obtain ⟨rfl, ⟨hT, hH, hG⟩, hK, hN, hEx⟩ := hv
  have hx := B9.exec
  have hb := B9.bytes
  have hr := B9.returns
  have hts := atoms_spec (ws := wsL_clean) B9.pre
  have hown : s.vm.findClass RL = some m.cls := findClass_of_methodNamed B9.named
  have hlocks := B9.notSynchronized
  have hS : va_S zFa s.heap s.heap [] := va_S.rf
  have hK5 : va_K (dC, dI) vwCl (zt ca) s := va_K.sub hK [0, 1, 2, 3, 4] rfl
  have hT : zT dC dI ca sf (ad 0) (ad2 0) s.heap := hT
  have hH : zW dC dI ca ad M s.heap := hH
  have hG : zW dC dI ca ad2 N s.heap := hG
  have hl := lv_entry ([.ref sf, .int a0, .ref ob]) (n := 4) (Nat.le_of_ble_eq_true rfl)
  rw [lg_entry_eq]
  generalize (lg_sl ([.ref sf, .int a0, .ref ob]) ++ List.replicate (4 - (lg_sl ([.ref sf, .int a0, .ref ob])).length) Slot.unset).toArray = ls at hl ⊢
  have hl : lv_has ls 4 [(0, .ref sf), (1, .int a0), (2, .ref ob)] := hl
  have htab : c.exceptionTable.toList = [] ++ ⟨0, 9, 12, 21⟩ :: [⟨0, 9, 15, 15⟩] := vx_table (x := yL_clean) B9 (hts _ List.mem_cons_self)
  refine lv_aload_n hx hb dL_clean_0 rfl (lv_at hl 2 rfl) ?_
  refine lv_iconst (v := 0) hx hb dL_clean_1 (by decide) ?_
  refine lv_aload_n hx hb dL_clean_2 rfl (lv_at hl 0 rfl) ?_
  refine lv_iload_n hx hb dL_clean_3 rfl (lv_at hl 1 rfl) ?_
  refine z_cV9 (D := (dC, dI)) (cl := vwCl) (tys := zt ca) (nw := zw_nest) (C := RX8) (As := [.int a0]) (rest := [.int 0, .ref ob]) ⟨hx, hb, hml, hown, hts⟩ (m_X8_cleanx l hl9 dC dI ca sf ad ad2 M N a0 h_n) (cwV 1 hts gL_clean_X8_clean rfl rfl rfl (by decide +kernel) ⟨Nat.le_of_ble_eq_true rfl, Nat.le_of_ble_eq_true rfl⟩) (z_recv (ci := 8) (i := 0) hK5 hT rfl (by decide) rfl) ⟨hT, hH, hG⟩ hK5 hN hEx zw_nest_ok rfl hl.1 rfl (Nat.le_of_ble_eq_true rfl) dL_clean_4 ⟨Nat.le_of_ble_eq_true rfl, Nat.le_of_ble_eq_true rfl⟩ hS (fun ce q9 H locs hS hce hcv hcl => ?_)
  refine vx_catch (own := RL) (name := zIOB) (E := zIOB) hown [] ⟨0, 9, 12, 21⟩ [⟨0, 9, 15, 15⟩] htab (fun z hz => absurd hz List.not_mem_nil) (by decide) (by decide) (hts (.classLink RL 21 zIOB) (by decide +kernel)) (va_Nw.use rfl (hEx.2.2.2.2.1 _ (by decide +kernel))) hce hcv hcl ?_
  refine lv_astore_n (lv' := [(3, .ref q9), (0, .ref sf), (1, .int a0), (2, .ref ob)]) hx hb dL_clean_12 rfl hl (by decide) rfl (fun ls hl => ?_)
  refine lv_iconst (v := 1) hx hb dL_clean_13 (by decide) ?_
  exact W.iret (v := 1) hx hb hr (fun t ht hW => ⟨⟨1, (), rfl, rfl, trivial⟩, hS.F ht⟩) hS.2.2 dL_clean_14
set_option maxHeartbeats 4000000 in
set_option maxRecDepth 100000 in
theorem m_L_turbinex (l : Launch) (hl9 : l.stackTraces = false) (dC : Nat → ClassId) (dI : Nat → Nat → Nat) (ca : Nat → ClassId) (sf : Nat) (ad : Nat → Nat) (ad2 : Nat → Nat) (ob : Nat) (M : zM) (N : zM) (a0 : Int32) (h_n : ¬ z_rg a0 0 99) : Met l yL_turbine wsL_turbine ({ frames := 8, cells := 1, slots := 6, locals := 126 }) (z_P9 (dC, dI) vwCl (lt9 ca) zw_nest [.ref sf, .int a0, .ref ob] zFa (fun H => zT dC dI ca sf (ad 0) (ad2 0) H ∧ zW dC dI ca ad M H ∧ zW dC dI ca ad2 N H)) (z_Qi 1 (fun _ => True) zFa) 1 6 zFa := by
  refine va_MetW (cc := cL_turbine) (maxL := 4) (ret := (some .int)) (by decide) rfl ?_
  intro p e s m args below meth c s₁ B9 hml hv
  obtain ⟨rfl, ⟨hT, hH, hG⟩, hK, hN, hEx⟩ := hv
  have hx := B9.exec
  have hb := B9.bytes
  have hr := B9.returns
  have hts := atoms_spec (ws := wsL_turbine) B9.pre
  have hown : s.vm.findClass RL = some m.cls := findClass_of_methodNamed B9.named
  have hlocks := B9.notSynchronized
  have hS : va_S zFa s.heap s.heap [] := va_S.rf
  have hK5 : va_K (dC, dI) vwCl (zt ca) s := va_K.sub hK [0, 1, 2, 3, 4] rfl
  have hT : zT dC dI ca sf (ad 0) (ad2 0) s.heap := hT
  have hH : zW dC dI ca ad M s.heap := hH
  have hG : zW dC dI ca ad2 N s.heap := hG
  have hl := lv_entry ([.ref sf, .int a0, .ref ob]) (n := 4) (Nat.le_of_ble_eq_true rfl)
  rw [lg_entry_eq]
  generalize (lg_sl ([.ref sf, .int a0, .ref ob]) ++ List.replicate (4 - (lg_sl ([.ref sf, .int a0, .ref ob])).length) Slot.unset).toArray = ls at hl ⊢
  have hl : lv_has ls 4 [(0, .ref sf), (1, .int a0), (2, .ref ob)] := hl
  have htab : c.exceptionTable.toList = [] ++ ⟨0, 9, 12, 13⟩ :: [] := vx_table (x := yL_turbine) B9 (hts _ List.mem_cons_self)
  refine lv_aload_n hx hb dL_turbine_0 rfl (lv_at hl 2 rfl) ?_
  refine lv_iconst (v := 0) hx hb dL_turbine_1 (by decide) ?_
  refine lv_aload_n hx hb dL_turbine_2 rfl (lv_at hl 0 rfl) ?_
  refine lv_iload_n hx hb dL_turbine_3 rfl (lv_at hl 1 rfl) ?_
  refine z_cV9 (D := (dC, dI)) (cl := vwCl) (tys := zt ca) (nw := zw_nest) (C := RX8) (As := [.int a0]) (rest := [.int 0, .ref ob]) ⟨hx, hb, hml, hown, hts⟩ (m_X8_turbinex l hl9 dC dI ca sf ad ad2 M N a0 h_n) (cwV 1 hts gL_turbine_X8_turbine rfl rfl rfl (by decide +kernel) ⟨Nat.le_of_ble_eq_true rfl, Nat.le_of_ble_eq_true rfl⟩) (z_recv (ci := 8) (i := 0) hK5 hT rfl (by decide) rfl) ⟨hT, hH, hG⟩ hK5 hN hEx zw_nest_ok rfl hl.1 rfl (Nat.le_of_ble_eq_true rfl) dL_turbine_4 ⟨Nat.le_of_ble_eq_true rfl, Nat.le_of_ble_eq_true rfl⟩ hS (fun ce q9 H locs hS hce hcv hcl => ?_)
  refine vx_catch (own := RL) (name := zIAE) (E := zIAE) hown [] ⟨0, 9, 12, 13⟩ [] htab (fun z hz => absurd hz List.not_mem_nil) (by decide) (by decide) (hts (.classLink RL 13 zIAE) (by decide +kernel)) (va_Nw.use rfl (hEx.2.2.2.2.1 _ (by decide +kernel))) hce hcv hcl ?_
  refine lv_astore_n (lv' := [(3, .ref q9), (0, .ref sf), (1, .int a0), (2, .ref ob)]) hx hb dL_turbine_12 rfl hl (by decide) rfl (fun ls hl => ?_)
  refine lv_iconst (v := 1) hx hb dL_turbine_13 (by decide) ?_
  exact W.iret (v := 1) hx hb hr (fun t ht hW => ⟨⟨1, (), rfl, rfl, trivial⟩, hS.F ht⟩) hS.2.2 dL_turbine_14
set_option maxHeartbeats 4000000 in
set_option maxRecDepth 100000 in
theorem m_L_townx (l : Launch) (hl9 : l.stackTraces = false) (dC : Nat → ClassId) (dI : Nat → Nat → Nat) (ca : Nat → ClassId) (sf : Nat) (ad : Nat → Nat) (ad2 : Nat → Nat) (ob : Nat) (M : zM) (N : zM) (a0 : Int32) (h_n : ¬ z_rg a0 0 999) : Met l yL_town wsL_town ({ frames := 8, cells := 1, slots := 6, locals := 126 }) (z_P9 (dC, dI) vwCl (lt9 ca) zw_nest [.ref sf, .int a0, .ref ob] zFa (fun H => zT dC dI ca sf (ad 0) (ad2 0) H ∧ zW dC dI ca ad M H ∧ zW dC dI ca ad2 N H)) (z_Qi 1 (fun _ => True) zFa) 1 6 zFa := by
  refine va_MetW (cc := cL_town) (maxL := 4) (ret := (some .int)) (by decide) rfl ?_
  intro p e s m args below meth c s₁ B9 hml hv
  obtain ⟨rfl, ⟨hT, hH, hG⟩, hK, hN, hEx⟩ := hv
  have hx := B9.exec
  have hb := B9.bytes
  have hr := B9.returns
  have hts := atoms_spec (ws := wsL_town) B9.pre
  have hown : s.vm.findClass RL = some m.cls := findClass_of_methodNamed B9.named
  have hlocks := B9.notSynchronized
  have hS : va_S zFa s.heap s.heap [] := va_S.rf
  have hK5 : va_K (dC, dI) vwCl (zt ca) s := va_K.sub hK [0, 1, 2, 3, 4] rfl
  have hT : zT dC dI ca sf (ad 0) (ad2 0) s.heap := hT
  have hH : zW dC dI ca ad M s.heap := hH
  have hG : zW dC dI ca ad2 N s.heap := hG
  have hl := lv_entry ([.ref sf, .int a0, .ref ob]) (n := 4) (Nat.le_of_ble_eq_true rfl)
  rw [lg_entry_eq]
  generalize (lg_sl ([.ref sf, .int a0, .ref ob]) ++ List.replicate (4 - (lg_sl ([.ref sf, .int a0, .ref ob])).length) Slot.unset).toArray = ls at hl ⊢
  have hl : lv_has ls 4 [(0, .ref sf), (1, .int a0), (2, .ref ob)] := hl
  have htab : c.exceptionTable.toList = [] ++ ⟨0, 9, 12, 13⟩ :: [] := vx_table (x := yL_town) B9 (hts _ List.mem_cons_self)
  refine lv_aload_n hx hb dL_town_0 rfl (lv_at hl 2 rfl) ?_
  refine lv_iconst (v := 0) hx hb dL_town_1 (by decide) ?_
  refine lv_aload_n hx hb dL_town_2 rfl (lv_at hl 0 rfl) ?_
  refine lv_iload_n hx hb dL_town_3 rfl (lv_at hl 1 rfl) ?_
  refine z_cV9 (D := (dC, dI)) (cl := vwCl) (tys := zt ca) (nw := zw_nest) (C := RX8) (As := [.int a0]) (rest := [.int 0, .ref ob]) ⟨hx, hb, hml, hown, hts⟩ (m_X8_townx l hl9 dC dI ca sf ad ad2 M N a0 h_n) (cwV 1 hts gL_town_X8_town rfl rfl rfl (by decide +kernel) ⟨Nat.le_of_ble_eq_true rfl, Nat.le_of_ble_eq_true rfl⟩) (z_recv (ci := 8) (i := 0) hK5 hT rfl (by decide) rfl) ⟨hT, hH, hG⟩ hK5 hN hEx zw_nest_ok rfl hl.1 rfl (Nat.le_of_ble_eq_true rfl) dL_town_4 ⟨Nat.le_of_ble_eq_true rfl, Nat.le_of_ble_eq_true rfl⟩ hS (fun ce q9 H locs hS hce hcv hcl => ?_)
  refine vx_catch (own := RL) (name := zIAE) (E := zIAE) hown [] ⟨0, 9, 12, 13⟩ [] htab (fun z hz => absurd hz List.not_mem_nil) (by decide) (by decide) (hts (.classLink RL 13 zIAE) (by decide +kernel)) (va_Nw.use rfl (hEx.2.2.2.2.1 _ (by decide +kernel))) hce hcv hcl ?_
  refine lv_astore_n (lv' := [(3, .ref q9), (0, .ref sf), (1, .int a0), (2, .ref ob)]) hx hb dL_town_12 rfl hl (by decide) rfl (fun ls hl => ?_)
  refine lv_iconst (v := 1) hx hb dL_town_13 (by decide) ?_
  exact W.iret (v := 1) hx hb hr (fun t ht hW => ⟨⟨1, (), rfl, rfl, trivial⟩, hS.F ht⟩) hS.2.2 dL_town_14
set_option maxHeartbeats 4000000 in
set_option maxRecDepth 100000 in
theorem m_L_runx (l : Launch) (hl9 : l.stackTraces = false) (dC : Nat → ClassId) (dI : Nat → Nat → Nat) (ca : Nat → ClassId) (sf : Nat) (ad : Nat → Nat) (ad2 : Nat → Nat) (ob : Nat) (M : zM) (N : zM) (a0 : Int32) (h_n : ¬ z_rg a0 1 30) : Met l yL_run wsL_run ({ frames := 8, cells := 1, slots := 6, locals := 125 }) (z_P9 (dC, dI) vwCl (lt9 ca) zw_nest [.ref sf, .int a0, .ref ob] zFa (fun H => zT dC dI ca sf (ad 0) (ad2 0) H ∧ zW dC dI ca ad M H ∧ zW dC dI ca ad2 N H)) (z_Qi 1 (fun _ => True) zFa) 1 6 zFa := by
  refine va_MetW (cc := cL_run) (maxL := 4) (ret := (some .int)) (by decide) rfl ?_
  intro p e s m args below meth c s₁ B9 hml hv
  obtain ⟨rfl, ⟨hT, hH, hG⟩, hK, hN, hEx⟩ := hv
  have hx := B9.exec
  have hb := B9.bytes
  have hr := B9.returns
  have hts := atoms_spec (ws := wsL_run) B9.pre
  have hown : s.vm.findClass RL = some m.cls := findClass_of_methodNamed B9.named
  have hlocks := B9.notSynchronized
  have hS : va_S zFa s.heap s.heap [] := va_S.rf
  have hK5 : va_K (dC, dI) vwCl (zt ca) s := va_K.sub hK [0, 1, 2, 3, 4] rfl
  have hT : zT dC dI ca sf (ad 0) (ad2 0) s.heap := hT
  have hH : zW dC dI ca ad M s.heap := hH
  have hG : zW dC dI ca ad2 N s.heap := hG
  have hl := lv_entry ([.ref sf, .int a0, .ref ob]) (n := 4) (Nat.le_of_ble_eq_true rfl)
  rw [lg_entry_eq]
  generalize (lg_sl ([.ref sf, .int a0, .ref ob]) ++ List.replicate (4 - (lg_sl ([.ref sf, .int a0, .ref ob])).length) Slot.unset).toArray = ls at hl ⊢
  have hl : lv_has ls 4 [(0, .ref sf), (1, .int a0), (2, .ref ob)] := hl
  have htab : c.exceptionTable.toList = [] ++ ⟨0, 9, 12, 13⟩ :: [] := vx_table (x := yL_run) B9 (hts _ List.mem_cons_self)
  refine lv_aload_n hx hb dL_run_0 rfl (lv_at hl 2 rfl) ?_
  refine lv_iconst (v := 0) hx hb dL_run_1 (by decide) ?_
  refine lv_aload_n hx hb dL_run_2 rfl (lv_at hl 0 rfl) ?_
  refine lv_iload_n hx hb dL_run_3 rfl (lv_at hl 1 rfl) ?_
  refine z_cV9 (D := (dC, dI)) (cl := vwCl) (tys := zt ca) (nw := zw_nest) (C := RX8) (As := [.int a0]) (rest := [.int 0, .ref ob]) ⟨hx, hb, hml, hown, hts⟩ (m_X8_runx l hl9 dC dI ca sf ad ad2 M N a0 h_n) (cwV 1 hts gL_run_X8_run rfl rfl rfl (by decide +kernel) ⟨Nat.le_of_ble_eq_true rfl, Nat.le_of_ble_eq_true rfl⟩) (z_recv (ci := 8) (i := 0) hK5 hT rfl (by decide) rfl) ⟨hT, hH, hG⟩ hK5 hN hEx zw_nest_ok rfl hl.1 rfl (Nat.le_of_ble_eq_true rfl) dL_run_4 ⟨Nat.le_of_ble_eq_true rfl, Nat.le_of_ble_eq_true rfl⟩ hS (fun ce q9 H locs hS hce hcv hcl => ?_)
  refine vx_catch (own := RL) (name := zIAE) (E := zIAE) hown [] ⟨0, 9, 12, 13⟩ [] htab (fun z hz => absurd hz List.not_mem_nil) (by decide) (by decide) (hts (.classLink RL 13 zIAE) (by decide +kernel)) (va_Nw.use rfl (hEx.2.2.2.2.1 _ (by decide +kernel))) hce hcv hcl ?_
  refine lv_astore_n (lv' := [(3, .ref q9), (0, .ref sf), (1, .int a0), (2, .ref ob)]) hx hb dL_run_12 rfl hl (by decide) rfl (fun ls hl => ?_)
  refine lv_iconst (v := 1) hx hb dL_run_13 (by decide) ?_
  exact W.iret (v := 1) hx hb hr (fun t ht hW => ⟨⟨1, (), rfl, rfl, trivial⟩, hS.F ht⟩) hS.2.2 dL_run_14
set_option maxHeartbeats 4000000 in
set_option maxRecDepth 100000 in
theorem m_L_ofBlockx (l : Launch) (hl9 : l.stackTraces = false) (dC : Nat → ClassId) (dI : Nat → Nat → Nat) (ca : Nat → ClassId) (sf : Nat) (ad : Nat → Nat) (ad2 : Nat → Nat) (ob : Nat) (M : zM) (N : zM) (a0 a1 : Int32) (h_n : ¬ z_ni a0 (M 0 10)) : Met l yL_ofBlock wsL_ofBlock ({ frames := 8, cells := 1, slots := 6, locals := 126 }) (z_P9 (dC, dI) vwCl (lt9 ca) zw_nest [.ref sf, .int a0, .int a1, .ref ob] zFa (fun H => zT dC dI ca sf (ad 0) (ad2 0) H ∧ zW dC dI ca ad M H ∧ zW dC dI ca ad2 N H)) (z_Qi 1 (fun _ => True) zFa) 1 6 zFa := by
  refine va_MetW (cc := cL_ofBlock) (maxL := 5) (ret := (some .int)) (by decide) rfl ?_
  intro p e s m args below meth c s₁ B9 hml hv
  obtain ⟨rfl, ⟨hT, hH, hG⟩, hK, hN, hEx⟩ := hv
  have hx := B9.exec
  have hb := B9.bytes
  have hr := B9.returns
  have hts := atoms_spec (ws := wsL_ofBlock) B9.pre
  have hown : s.vm.findClass RL = some m.cls := findClass_of_methodNamed B9.named
  have hlocks := B9.notSynchronized
  have hS : va_S zFa s.heap s.heap [] := va_S.rf
  have hK5 : va_K (dC, dI) vwCl (zt ca) s := va_K.sub hK [0, 1, 2, 3, 4] rfl
  have hT : zT dC dI ca sf (ad 0) (ad2 0) s.heap := hT
  have hH : zW dC dI ca ad M s.heap := hH
  have hG : zW dC dI ca ad2 N s.heap := hG
  have hl := lv_entry ([.ref sf, .int a0, .int a1, .ref ob]) (n := 5) (Nat.le_of_ble_eq_true rfl)
  rw [lg_entry_eq]
  generalize (lg_sl ([.ref sf, .int a0, .int a1, .ref ob]) ++ List.replicate (5 - (lg_sl ([.ref sf, .int a0, .int a1, .ref ob])).length) Slot.unset).toArray = ls at hl ⊢
  have hl : lv_has ls 5 [(0, .ref sf), (1, .int a0), (2, .int a1), (3, .ref ob)] := hl
  have htab : c.exceptionTable.toList = [] ++ ⟨0, 10, 13, 21⟩ :: [⟨0, 10, 17, 13⟩] := vx_table (x := yL_ofBlock) B9 (hts _ List.mem_cons_self)
  refine lv_aload_n hx hb dL_ofBlock_0 rfl (lv_at hl 3 rfl) ?_
  refine lv_iconst (v := 0) hx hb dL_ofBlock_1 (by decide) ?_
  refine lv_aload_n hx hb dL_ofBlock_2 rfl (lv_at hl 0 rfl) ?_
  refine lv_iload_n hx hb dL_ofBlock_3 rfl (lv_at hl 1 rfl) ?_
  refine lv_iload_n hx hb dL_ofBlock_4 rfl (lv_at hl 2 rfl) ?_
  refine z_cV9 (D := (dC, dI)) (cl := vwCl) (tys := zt ca) (nw := zw_nest) (C := RX8) (As := [.int a0, .int a1]) (rest := [.int 0, .ref ob]) ⟨hx, hb, hml, hown, hts⟩ (m_X8_ofBlockx l hl9 dC dI ca sf ad ad2 M N a0 a1 h_n) (cwV 2 hts gL_ofBlock_X8_ofBlock rfl rfl rfl (by decide +kernel) ⟨Nat.le_of_ble_eq_true rfl, Nat.le_of_ble_eq_true rfl⟩) (z_recv (ci := 8) (i := 0) hK5 hT rfl (by decide) rfl) ⟨hT, hH, hG⟩ hK5 hN hEx zw_nest_ok rfl hl.1 rfl (Nat.le_of_ble_eq_true rfl) dL_ofBlock_5 ⟨Nat.le_of_ble_eq_true rfl, Nat.le_of_ble_eq_true rfl⟩ hS (fun ce q9 H locs hS hce hcv hcl => ?_)
  refine vx_catch (own := RL) (name := zIOB) (E := zIOB) hown [] ⟨0, 10, 13, 21⟩ [⟨0, 10, 17, 13⟩] htab (fun z hz => absurd hz List.not_mem_nil) (by decide) (by decide) (hts (.classLink RL 21 zIOB) (by decide +kernel)) (va_Nw.use rfl (hEx.2.2.2.2.1 _ (by decide +kernel))) hce hcv hcl ?_
  refine lv_astore (lv' := [(4, .ref q9), (0, .ref sf), (1, .int a0), (2, .int a1), (3, .ref ob)]) hx hb dL_ofBlock_13 hl (by decide) rfl (fun ls hl => ?_)
  refine lv_iconst (v := 1) hx hb dL_ofBlock_15 (by decide) ?_
  exact W.iret (v := 1) hx hb hr (fun t ht hW => ⟨⟨1, (), rfl, rfl, trivial⟩, hS.F ht⟩) hS.2.2 dL_ofBlock_16
set_option maxHeartbeats 4000000 in
set_option maxRecDepth 100000 in
theorem m_L_ofWellx (l : Launch) (hl9 : l.stackTraces = false) (dC : Nat → ClassId) (dI : Nat → Nat → Nat) (ca : Nat → ClassId) (sf : Nat) (ad : Nat → Nat) (ad2 : Nat → Nat) (ob : Nat) (M : zM) (N : zM) (a0 a1 : Int32) (h_n : ¬ z_ni a0 (M 0 12)) : Met l yL_ofWell wsL_ofWell ({ frames := 8, cells := 1, slots := 6, locals := 126 }) (z_P9 (dC, dI) vwCl (lt9 ca) zw_nest [.ref sf, .int a0, .int a1, .ref ob] zFa (fun H => zT dC dI ca sf (ad 0) (ad2 0) H ∧ zW dC dI ca ad M H ∧ zW dC dI ca ad2 N H)) (z_Qi 1 (fun _ => True) zFa) 1 6 zFa := by
  refine va_MetW (cc := cL_ofWell) (maxL := 5) (ret := (some .int)) (by decide) rfl ?_
  intro p e s m args below meth c s₁ B9 hml hv
  obtain ⟨rfl, ⟨hT, hH, hG⟩, hK, hN, hEx⟩ := hv
  have hx := B9.exec
  have hb := B9.bytes
  have hr := B9.returns
  have hts := atoms_spec (ws := wsL_ofWell) B9.pre
  have hown : s.vm.findClass RL = some m.cls := findClass_of_methodNamed B9.named
  have hlocks := B9.notSynchronized
  have hS : va_S zFa s.heap s.heap [] := va_S.rf
  have hK5 : va_K (dC, dI) vwCl (zt ca) s := va_K.sub hK [0, 1, 2, 3, 4] rfl
  have hT : zT dC dI ca sf (ad 0) (ad2 0) s.heap := hT
  have hH : zW dC dI ca ad M s.heap := hH
  have hG : zW dC dI ca ad2 N s.heap := hG
  have hl := lv_entry ([.ref sf, .int a0, .int a1, .ref ob]) (n := 5) (Nat.le_of_ble_eq_true rfl)
  rw [lg_entry_eq]
  generalize (lg_sl ([.ref sf, .int a0, .int a1, .ref ob]) ++ List.replicate (5 - (lg_sl ([.ref sf, .int a0, .int a1, .ref ob])).length) Slot.unset).toArray = ls at hl ⊢
  have hl : lv_has ls 5 [(0, .ref sf), (1, .int a0), (2, .int a1), (3, .ref ob)] := hl
  have htab : c.exceptionTable.toList = [] ++ ⟨0, 10, 13, 21⟩ :: [⟨0, 10, 17, 13⟩] := vx_table (x := yL_ofWell) B9 (hts _ List.mem_cons_self)
  refine lv_aload_n hx hb dL_ofWell_0 rfl (lv_at hl 3 rfl) ?_
  refine lv_iconst (v := 0) hx hb dL_ofWell_1 (by decide) ?_
  refine lv_aload_n hx hb dL_ofWell_2 rfl (lv_at hl 0 rfl) ?_
  refine lv_iload_n hx hb dL_ofWell_3 rfl (lv_at hl 1 rfl) ?_
  refine lv_iload_n hx hb dL_ofWell_4 rfl (lv_at hl 2 rfl) ?_
  refine z_cV9 (D := (dC, dI)) (cl := vwCl) (tys := zt ca) (nw := zw_nest) (C := RX8) (As := [.int a0, .int a1]) (rest := [.int 0, .ref ob]) ⟨hx, hb, hml, hown, hts⟩ (m_X8_ofWellx l hl9 dC dI ca sf ad ad2 M N a0 a1 h_n) (cwV 2 hts gL_ofWell_X8_ofWell rfl rfl rfl (by decide +kernel) ⟨Nat.le_of_ble_eq_true rfl, Nat.le_of_ble_eq_true rfl⟩) (z_recv (ci := 8) (i := 0) hK5 hT rfl (by decide) rfl) ⟨hT, hH, hG⟩ hK5 hN hEx zw_nest_ok rfl hl.1 rfl (Nat.le_of_ble_eq_true rfl) dL_ofWell_5 ⟨Nat.le_of_ble_eq_true rfl, Nat.le_of_ble_eq_true rfl⟩ hS (fun ce q9 H locs hS hce hcv hcl => ?_)
  refine vx_catch (own := RL) (name := zIOB) (E := zIOB) hown [] ⟨0, 10, 13, 21⟩ [⟨0, 10, 17, 13⟩] htab (fun z hz => absurd hz List.not_mem_nil) (by decide) (by decide) (hts (.classLink RL 21 zIOB) (by decide +kernel)) (va_Nw.use rfl (hEx.2.2.2.2.1 _ (by decide +kernel))) hce hcv hcl ?_
  refine lv_astore (lv' := [(4, .ref q9), (0, .ref sf), (1, .int a0), (2, .int a1), (3, .ref ob)]) hx hb dL_ofWell_13 hl (by decide) rfl (fun ls hl => ?_)
  refine lv_iconst (v := 1) hx hb dL_ofWell_15 (by decide) ?_
  exact W.iret (v := 1) hx hb hr (fun t ht hW => ⟨⟨1, (), rfl, rfl, trivial⟩, hS.F ht⟩) hS.2.2 dL_ofWell_16
set_option maxHeartbeats 4000000 in
set_option maxRecDepth 100000 in
theorem m_L_ofSpringx (l : Launch) (hl9 : l.stackTraces = false) (dC : Nat → ClassId) (dI : Nat → Nat → Nat) (ca : Nat → ClassId) (sf : Nat) (ad : Nat → Nat) (ad2 : Nat → Nat) (ob : Nat) (M : zM) (N : zM) (a0 a1 : Int32) (h_n : ¬ z_ni a0 (M 0 13)) : Met l yL_ofSpring wsL_ofSpring ({ frames := 8, cells := 1, slots := 6, locals := 126 }) (z_P9 (dC, dI) vwCl (lt9 ca) zw_nest [.ref sf, .int a0, .int a1, .ref ob] zFa (fun H => zT dC dI ca sf (ad 0) (ad2 0) H ∧ zW dC dI ca ad M H ∧ zW dC dI ca ad2 N H)) (z_Qi 1 (fun _ => True) zFa) 1 6 zFa := by
  refine va_MetW (cc := cL_ofSpring) (maxL := 5) (ret := (some .int)) (by decide) rfl ?_
  intro p e s m args below meth c s₁ B9 hml hv
  obtain ⟨rfl, ⟨hT, hH, hG⟩, hK, hN, hEx⟩ := hv
  have hx := B9.exec
  have hb := B9.bytes
  have hr := B9.returns
  have hts := atoms_spec (ws := wsL_ofSpring) B9.pre
  have hown : s.vm.findClass RL = some m.cls := findClass_of_methodNamed B9.named
  have hlocks := B9.notSynchronized
  have hS : va_S zFa s.heap s.heap [] := va_S.rf
  have hK5 : va_K (dC, dI) vwCl (zt ca) s := va_K.sub hK [0, 1, 2, 3, 4] rfl
  have hT : zT dC dI ca sf (ad 0) (ad2 0) s.heap := hT
  have hH : zW dC dI ca ad M s.heap := hH
  have hG : zW dC dI ca ad2 N s.heap := hG
  have hl := lv_entry ([.ref sf, .int a0, .int a1, .ref ob]) (n := 5) (Nat.le_of_ble_eq_true rfl)
  rw [lg_entry_eq]
  generalize (lg_sl ([.ref sf, .int a0, .int a1, .ref ob]) ++ List.replicate (5 - (lg_sl ([.ref sf, .int a0, .int a1, .ref ob])).length) Slot.unset).toArray = ls at hl ⊢
  have hl : lv_has ls 5 [(0, .ref sf), (1, .int a0), (2, .int a1), (3, .ref ob)] := hl
  have htab : c.exceptionTable.toList = [] ++ ⟨0, 10, 13, 21⟩ :: [⟨0, 10, 17, 13⟩] := vx_table (x := yL_ofSpring) B9 (hts _ List.mem_cons_self)
  refine lv_aload_n hx hb dL_ofSpring_0 rfl (lv_at hl 3 rfl) ?_
  refine lv_iconst (v := 0) hx hb dL_ofSpring_1 (by decide) ?_
  refine lv_aload_n hx hb dL_ofSpring_2 rfl (lv_at hl 0 rfl) ?_
  refine lv_iload_n hx hb dL_ofSpring_3 rfl (lv_at hl 1 rfl) ?_
  refine lv_iload_n hx hb dL_ofSpring_4 rfl (lv_at hl 2 rfl) ?_
  refine z_cV9 (D := (dC, dI)) (cl := vwCl) (tys := zt ca) (nw := zw_nest) (C := RX8) (As := [.int a0, .int a1]) (rest := [.int 0, .ref ob]) ⟨hx, hb, hml, hown, hts⟩ (m_X8_ofSpringx l hl9 dC dI ca sf ad ad2 M N a0 a1 h_n) (cwV 2 hts gL_ofSpring_X8_ofSpring rfl rfl rfl (by decide +kernel) ⟨Nat.le_of_ble_eq_true rfl, Nat.le_of_ble_eq_true rfl⟩) (z_recv (ci := 8) (i := 0) hK5 hT rfl (by decide) rfl) ⟨hT, hH, hG⟩ hK5 hN hEx zw_nest_ok rfl hl.1 rfl (Nat.le_of_ble_eq_true rfl) dL_ofSpring_5 ⟨Nat.le_of_ble_eq_true rfl, Nat.le_of_ble_eq_true rfl⟩ hS (fun ce q9 H locs hS hce hcv hcl => ?_)
  refine vx_catch (own := RL) (name := zIOB) (E := zIOB) hown [] ⟨0, 10, 13, 21⟩ [⟨0, 10, 17, 13⟩] htab (fun z hz => absurd hz List.not_mem_nil) (by decide) (by decide) (hts (.classLink RL 21 zIOB) (by decide +kernel)) (va_Nw.use rfl (hEx.2.2.2.2.1 _ (by decide +kernel))) hce hcv hcl ?_
  refine lv_astore (lv' := [(4, .ref q9), (0, .ref sf), (1, .int a0), (2, .int a1), (3, .ref ob)]) hx hb dL_ofSpring_13 hl (by decide) rfl (fun ls hl => ?_)
  refine lv_iconst (v := 1) hx hb dL_ofSpring_15 (by decide) ?_
  exact W.iret (v := 1) hx hb hr (fun t ht hW => ⟨⟨1, (), rfl, rfl, trivial⟩, hS.F ht⟩) hS.2.2 dL_ofSpring_16
set_option maxHeartbeats 4000000 in
set_option maxRecDepth 100000 in
theorem m_L_ofFacex (l : Launch) (hl9 : l.stackTraces = false) (dC : Nat → ClassId) (dI : Nat → Nat → Nat) (ca : Nat → ClassId) (sf : Nat) (ad : Nat → Nat) (ad2 : Nat → Nat) (ob : Nat) (M : zM) (N : zM) (a0 a1 : Int32) (h_n : ¬ z_ni a0 (M 0 11)) : Met l yL_ofFace wsL_ofFace ({ frames := 8, cells := 1, slots := 6, locals := 125 }) (z_P9 (dC, dI) vwCl (lt9 ca) zw_nest [.ref sf, .int a0, .int a1, .ref ob] zFa (fun H => zT dC dI ca sf (ad 0) (ad2 0) H ∧ zW dC dI ca ad M H ∧ zW dC dI ca ad2 N H)) (z_Qi 1 (fun _ => True) zFa) 1 6 zFa := by
  refine va_MetW (cc := cL_ofFace) (maxL := 5) (ret := (some .int)) (by decide) rfl ?_
  intro p e s m args below meth c s₁ B9 hml hv
  obtain ⟨rfl, ⟨hT, hH, hG⟩, hK, hN, hEx⟩ := hv
  have hx := B9.exec
  have hb := B9.bytes
  have hr := B9.returns
  have hts := atoms_spec (ws := wsL_ofFace) B9.pre
  have hown : s.vm.findClass RL = some m.cls := findClass_of_methodNamed B9.named
  have hlocks := B9.notSynchronized
  have hS : va_S zFa s.heap s.heap [] := va_S.rf
  have hK5 : va_K (dC, dI) vwCl (zt ca) s := va_K.sub hK [0, 1, 2, 3, 4] rfl
  have hT : zT dC dI ca sf (ad 0) (ad2 0) s.heap := hT
  have hH : zW dC dI ca ad M s.heap := hH
  have hG : zW dC dI ca ad2 N s.heap := hG
  have hl := lv_entry ([.ref sf, .int a0, .int a1, .ref ob]) (n := 5) (Nat.le_of_ble_eq_true rfl)
  rw [lg_entry_eq]
  generalize (lg_sl ([.ref sf, .int a0, .int a1, .ref ob]) ++ List.replicate (5 - (lg_sl ([.ref sf, .int a0, .int a1, .ref ob])).length) Slot.unset).toArray = ls at hl ⊢
  have hl : lv_has ls 5 [(0, .ref sf), (1, .int a0), (2, .int a1), (3, .ref ob)] := hl
  have htab : c.exceptionTable.toList = [] ++ ⟨0, 10, 13, 21⟩ :: [] := vx_table (x := yL_ofFace) B9 (hts _ List.mem_cons_self)
  refine lv_aload_n hx hb dL_ofFace_0 rfl (lv_at hl 3 rfl) ?_
  refine lv_iconst (v := 0) hx hb dL_ofFace_1 (by decide) ?_
  refine lv_aload_n hx hb dL_ofFace_2 rfl (lv_at hl 0 rfl) ?_
  refine lv_iload_n hx hb dL_ofFace_3 rfl (lv_at hl 1 rfl) ?_
  refine lv_iload_n hx hb dL_ofFace_4 rfl (lv_at hl 2 rfl) ?_
  refine z_cV9 (D := (dC, dI)) (cl := vwCl) (tys := zt ca) (nw := zw_nest) (C := RX8) (As := [.int a0, .int a1]) (rest := [.int 0, .ref ob]) ⟨hx, hb, hml, hown, hts⟩ (m_X8_ofFacex l hl9 dC dI ca sf ad ad2 M N a0 a1 h_n) (cwV 2 hts gL_ofFace_X8_ofFace rfl rfl rfl (by decide +kernel) ⟨Nat.le_of_ble_eq_true rfl, Nat.le_of_ble_eq_true rfl⟩) (z_recv (ci := 8) (i := 0) hK5 hT rfl (by decide) rfl) ⟨hT, hH, hG⟩ hK5 hN hEx zw_nest_ok rfl hl.1 rfl (Nat.le_of_ble_eq_true rfl) dL_ofFace_5 ⟨Nat.le_of_ble_eq_true rfl, Nat.le_of_ble_eq_true rfl⟩ hS (fun ce q9 H locs hS hce hcv hcl => ?_)
  refine vx_catch (own := RL) (name := zIOB) (E := zIOB) hown [] ⟨0, 10, 13, 21⟩ [] htab (fun z hz => absurd hz List.not_mem_nil) (by decide) (by decide) (hts (.classLink RL 21 zIOB) (by decide +kernel)) (va_Nw.use rfl (hEx.2.2.2.2.1 _ (by decide +kernel))) hce hcv hcl ?_
  refine lv_astore (lv' := [(4, .ref q9), (0, .ref sf), (1, .int a0), (2, .int a1), (3, .ref ob)]) hx hb dL_ofFace_13 hl (by decide) rfl (fun ls hl => ?_)
  refine lv_iconst (v := 1) hx hb dL_ofFace_15 (by decide) ?_
  exact W.iret (v := 1) hx hb hr (fun t ht hW => ⟨⟨1, (), rfl, rfl, trivial⟩, hS.F ht⟩) hS.2.2 dL_ofFace_16
set_option maxHeartbeats 4000000 in
set_option maxRecDepth 100000 in
theorem m_L_pondx (l : Launch) (hl9 : l.stackTraces = false) (dC : Nat → ClassId) (dI : Nat → Nat → Nat) (ca : Nat → ClassId) (sf : Nat) (ad : Nat → Nat) (ad2 : Nat → Nat) (ob : Nat) (M : zM) (N : zM) (a0 : Int32) (h_n : ¬ z_rg a0 0 3) : Met l yL_pond wsL_pond ({ frames := 8, cells := 1, slots := 6, locals := 125 }) (z_P9 (dC, dI) vwCl (lt9 ca) zw_nest [.ref sf, .int a0, .ref ob] zFa (fun H => zT dC dI ca sf (ad 0) (ad2 0) H ∧ zW dC dI ca ad M H ∧ zW dC dI ca ad2 N H)) (z_Qi 1 (fun _ => True) zFa) 1 6 zFa := by
  refine va_MetW (cc := cL_pond) (maxL := 4) (ret := (some .int)) (by decide) rfl ?_
  intro p e s m args below meth c s₁ B9 hml hv
  obtain ⟨rfl, ⟨hT, hH, hG⟩, hK, hN, hEx⟩ := hv
  have hx := B9.exec
  have hb := B9.bytes
  have hr := B9.returns
  have hts := atoms_spec (ws := wsL_pond) B9.pre
  have hown : s.vm.findClass RL = some m.cls := findClass_of_methodNamed B9.named
  have hlocks := B9.notSynchronized
  have hS : va_S zFa s.heap s.heap [] := va_S.rf
  have hK5 : va_K (dC, dI) vwCl (zt ca) s := va_K.sub hK [0, 1, 2, 3, 4] rfl
  have hT : zT dC dI ca sf (ad 0) (ad2 0) s.heap := hT
  have hH : zW dC dI ca ad M s.heap := hH
  have hG : zW dC dI ca ad2 N s.heap := hG
  have hl := lv_entry ([.ref sf, .int a0, .ref ob]) (n := 4) (Nat.le_of_ble_eq_true rfl)
  rw [lg_entry_eq]
  generalize (lg_sl ([.ref sf, .int a0, .ref ob]) ++ List.replicate (4 - (lg_sl ([.ref sf, .int a0, .ref ob])).length) Slot.unset).toArray = ls at hl ⊢
  have hl : lv_has ls 4 [(0, .ref sf), (1, .int a0), (2, .ref ob)] := hl
  have htab : c.exceptionTable.toList = [] ++ ⟨0, 9, 12, 13⟩ :: [] := vx_table (x := yL_pond) B9 (hts _ List.mem_cons_self)
  refine lv_aload_n hx hb dL_pond_0 rfl (lv_at hl 2 rfl) ?_
  refine lv_iconst (v := 0) hx hb dL_pond_1 (by decide) ?_
  refine lv_aload_n hx hb dL_pond_2 rfl (lv_at hl 0 rfl) ?_
  refine lv_iload_n hx hb dL_pond_3 rfl (lv_at hl 1 rfl) ?_
  refine z_cV9 (D := (dC, dI)) (cl := vwCl) (tys := zt ca) (nw := zw_nest) (C := RX8) (As := [.int a0]) (rest := [.int 0, .ref ob]) ⟨hx, hb, hml, hown, hts⟩ (m_X8_pondx l hl9 dC dI ca sf ad ad2 M N a0 h_n) (cwV 1 hts gL_pond_X8_pond rfl rfl rfl (by decide +kernel) ⟨Nat.le_of_ble_eq_true rfl, Nat.le_of_ble_eq_true rfl⟩) (z_recv (ci := 8) (i := 0) hK5 hT rfl (by decide) rfl) ⟨hT, hH, hG⟩ hK5 hN hEx zw_nest_ok rfl hl.1 rfl (Nat.le_of_ble_eq_true rfl) dL_pond_4 ⟨Nat.le_of_ble_eq_true rfl, Nat.le_of_ble_eq_true rfl⟩ hS (fun ce q9 H locs hS hce hcv hcl => ?_)
  refine vx_catch (own := RL) (name := zIAE) (E := zIAE) hown [] ⟨0, 9, 12, 13⟩ [] htab (fun z hz => absurd hz List.not_mem_nil) (by decide) (by decide) (hts (.classLink RL 13 zIAE) (by decide +kernel)) (va_Nw.use rfl (hEx.2.2.2.2.1 _ (by decide +kernel))) hce hcv hcl ?_
  refine lv_astore_n (lv' := [(3, .ref q9), (0, .ref sf), (1, .int a0), (2, .ref ob)]) hx hb dL_pond_12 rfl hl (by decide) rfl (fun ls hl => ?_)
  refine lv_iconst (v := 1) hx hb dL_pond_13 (by decide) ?_
  exact W.iret (v := 1) hx hb hr (fun t ht hW => ⟨⟨1, (), rfl, rfl, trivial⟩, hS.F ht⟩) hS.2.2 dL_pond_14
set_option maxHeartbeats 4000000 in
set_option maxRecDepth 100000 in
theorem m_L_ofOwnerx (l : Launch) (hl9 : l.stackTraces = false) (dC : Nat → ClassId) (dI : Nat → Nat → Nat) (ca : Nat → ClassId) (sf : Nat) (ad : Nat → Nat) (ad2 : Nat → Nat) (ob : Nat) (M : zM) (N : zM) (a0 a1 : Int32) (h_n : ¬ z_ni a0 2) : Met l yL_ofOwner wsL_ofOwner ({ frames := 8, cells := 1, slots := 6, locals := 125 }) (z_P9 (dC, dI) vwCl (lt9 ca) zw_nest [.ref sf, .int a0, .int a1, .ref ob] zFa (fun H => zT dC dI ca sf (ad 0) (ad2 0) H ∧ zW dC dI ca ad M H ∧ zW dC dI ca ad2 N H)) (z_Qi 1 (fun _ => True) zFa) 1 6 zFa := by
  refine va_MetW (cc := cL_ofOwner) (maxL := 5) (ret := (some .int)) (by decide) rfl ?_
  intro p e s m args below meth c s₁ B9 hml hv
  obtain ⟨rfl, ⟨hT, hH, hG⟩, hK, hN, hEx⟩ := hv
  have hx := B9.exec
  have hb := B9.bytes
  have hr := B9.returns
  have hts := atoms_spec (ws := wsL_ofOwner) B9.pre
  have hown : s.vm.findClass RL = some m.cls := findClass_of_methodNamed B9.named
  have hlocks := B9.notSynchronized
  have hS : va_S zFa s.heap s.heap [] := va_S.rf
  have hK5 : va_K (dC, dI) vwCl (zt ca) s := va_K.sub hK [0, 1, 2, 3, 4] rfl
  have hT : zT dC dI ca sf (ad 0) (ad2 0) s.heap := hT
  have hH : zW dC dI ca ad M s.heap := hH
  have hG : zW dC dI ca ad2 N s.heap := hG
  have hl := lv_entry ([.ref sf, .int a0, .int a1, .ref ob]) (n := 5) (Nat.le_of_ble_eq_true rfl)
  rw [lg_entry_eq]
  generalize (lg_sl ([.ref sf, .int a0, .int a1, .ref ob]) ++ List.replicate (5 - (lg_sl ([.ref sf, .int a0, .int a1, .ref ob])).length) Slot.unset).toArray = ls at hl ⊢
  have hl : lv_has ls 5 [(0, .ref sf), (1, .int a0), (2, .int a1), (3, .ref ob)] := hl
  have htab : c.exceptionTable.toList = [] ++ ⟨0, 10, 13, 21⟩ :: [⟨0, 10, 17, 13⟩] := vx_table (x := yL_ofOwner) B9 (hts _ List.mem_cons_self)
  refine lv_aload_n hx hb dL_ofOwner_0 rfl (lv_at hl 3 rfl) ?_
  refine lv_iconst (v := 0) hx hb dL_ofOwner_1 (by decide) ?_
  refine lv_aload_n hx hb dL_ofOwner_2 rfl (lv_at hl 0 rfl) ?_
  refine lv_iload_n hx hb dL_ofOwner_3 rfl (lv_at hl 1 rfl) ?_
  refine lv_iload_n hx hb dL_ofOwner_4 rfl (lv_at hl 2 rfl) ?_
  refine z_cV9 (D := (dC, dI)) (cl := vwCl) (tys := zt ca) (nw := zw_nest) (C := RX8) (As := [.int a0, .int a1]) (rest := [.int 0, .ref ob]) ⟨hx, hb, hml, hown, hts⟩ (m_X8_ofOwnerx l hl9 dC dI ca sf ad ad2 M N a0 a1 h_n) (cwV 2 hts gL_ofOwner_X8_ofOwner rfl rfl rfl (by decide +kernel) ⟨Nat.le_of_ble_eq_true rfl, Nat.le_of_ble_eq_true rfl⟩) (z_recv (ci := 8) (i := 0) hK5 hT rfl (by decide) rfl) ⟨hT, hH, hG⟩ hK5 hN hEx zw_nest_ok rfl hl.1 rfl (Nat.le_of_ble_eq_true rfl) dL_ofOwner_5 ⟨Nat.le_of_ble_eq_true rfl, Nat.le_of_ble_eq_true rfl⟩ hS (fun ce q9 H locs hS hce hcv hcl => ?_)
  refine vx_catch (own := RL) (name := zIOB) (E := zIOB) hown [] ⟨0, 10, 13, 21⟩ [⟨0, 10, 17, 13⟩] htab (fun z hz => absurd hz List.not_mem_nil) (by decide) (by decide) (hts (.classLink RL 21 zIOB) (by decide +kernel)) (va_Nw.use rfl (hEx.2.2.2.2.1 _ (by decide +kernel))) hce hcv hcl ?_
  refine lv_astore (lv' := [(4, .ref q9), (0, .ref sf), (1, .int a0), (2, .int a1), (3, .ref ob)]) hx hb dL_ofOwner_13 hl (by decide) rfl (fun ls hl => ?_)
  refine lv_iconst (v := 1) hx hb dL_ofOwner_15 (by decide) ?_
  exact W.iret (v := 1) hx hb hr (fun t ht hW => ⟨⟨1, (), rfl, rfl, trivial⟩, hS.F ht⟩) hS.2.2 dL_ofOwner_16
set_option maxHeartbeats 4000000 in
set_option maxRecDepth 100000 in
theorem m_L_massx (l : Launch) (hl9 : l.stackTraces = false) (dC : Nat → ClassId) (dI : Nat → Nat → Nat) (ca : Nat → ClassId) (sf : Nat) (ad : Nat → Nat) (ad2 : Nat → Nat) (ob : Nat) (M : zM) (N : zM) (a0 : Int32) (h_n : ¬ z_rg a0 0 6) : Met l yL_mass wsL_mass ({ frames := 8, cells := 1, slots := 6, locals := 125 }) (z_P9 (dC, dI) vwCl (lt9 ca) zw_nest [.ref sf, .int a0, .ref ob] zFa (fun H => zT dC dI ca sf (ad 0) (ad2 0) H ∧ zW dC dI ca ad M H ∧ zW dC dI ca ad2 N H)) (z_Qi 1 (fun _ => True) zFa) 1 6 zFa := by
  refine va_MetW (cc := cL_mass) (maxL := 4) (ret := (some .int)) (by decide) rfl ?_
  intro p e s m args below meth c s₁ B9 hml hv
  obtain ⟨rfl, ⟨hT, hH, hG⟩, hK, hN, hEx⟩ := hv
  have hx := B9.exec
  have hb := B9.bytes
  have hr := B9.returns
  have hts := atoms_spec (ws := wsL_mass) B9.pre
  have hown : s.vm.findClass RL = some m.cls := findClass_of_methodNamed B9.named
  have hlocks := B9.notSynchronized
  have hS : va_S zFa s.heap s.heap [] := va_S.rf
  have hK5 : va_K (dC, dI) vwCl (zt ca) s := va_K.sub hK [0, 1, 2, 3, 4] rfl
  have hT : zT dC dI ca sf (ad 0) (ad2 0) s.heap := hT
  have hH : zW dC dI ca ad M s.heap := hH
  have hG : zW dC dI ca ad2 N s.heap := hG
  have hl := lv_entry ([.ref sf, .int a0, .ref ob]) (n := 4) (Nat.le_of_ble_eq_true rfl)
  rw [lg_entry_eq]
  generalize (lg_sl ([.ref sf, .int a0, .ref ob]) ++ List.replicate (4 - (lg_sl ([.ref sf, .int a0, .ref ob])).length) Slot.unset).toArray = ls at hl ⊢
  have hl : lv_has ls 4 [(0, .ref sf), (1, .int a0), (2, .ref ob)] := hl
  have htab : c.exceptionTable.toList = [] ++ ⟨0, 9, 12, 13⟩ :: [] := vx_table (x := yL_mass) B9 (hts _ List.mem_cons_self)
  refine lv_aload_n hx hb dL_mass_0 rfl (lv_at hl 2 rfl) ?_
  refine lv_iconst (v := 0) hx hb dL_mass_1 (by decide) ?_
  refine lv_aload_n hx hb dL_mass_2 rfl (lv_at hl 0 rfl) ?_
  refine lv_iload_n hx hb dL_mass_3 rfl (lv_at hl 1 rfl) ?_
  refine z_cV9 (D := (dC, dI)) (cl := vwCl) (tys := zt ca) (nw := zw_nest) (C := RX8) (As := [.int a0]) (rest := [.int 0, .ref ob]) ⟨hx, hb, hml, hown, hts⟩ (m_X8_massx l hl9 dC dI ca sf ad ad2 M N a0 h_n) (cwV 1 hts gL_mass_X8_mass rfl rfl rfl (by decide +kernel) ⟨Nat.le_of_ble_eq_true rfl, Nat.le_of_ble_eq_true rfl⟩) (z_recv (ci := 8) (i := 0) hK5 hT rfl (by decide) rfl) ⟨hT, hH, hG⟩ hK5 hN hEx zw_nest_ok rfl hl.1 rfl (Nat.le_of_ble_eq_true rfl) dL_mass_4 ⟨Nat.le_of_ble_eq_true rfl, Nat.le_of_ble_eq_true rfl⟩ hS (fun ce q9 H locs hS hce hcv hcl => ?_)
  refine vx_catch (own := RL) (name := zIAE) (E := zIAE) hown [] ⟨0, 9, 12, 13⟩ [] htab (fun z hz => absurd hz List.not_mem_nil) (by decide) (by decide) (hts (.classLink RL 13 zIAE) (by decide +kernel)) (va_Nw.use rfl (hEx.2.2.2.2.1 _ (by decide +kernel))) hce hcv hcl ?_
  refine lv_astore_n (lv' := [(3, .ref q9), (0, .ref sf), (1, .int a0), (2, .ref ob)]) hx hb dL_mass_12 rfl hl (by decide) rfl (fun ls hl => ?_)
  refine lv_iconst (v := 1) hx hb dL_mass_13 (by decide) ?_
  exact W.iret (v := 1) hx hb hr (fun t ht hW => ⟨⟨1, (), rfl, rfl, trivial⟩, hS.F ht⟩) hS.2.2 dL_mass_14
set_option maxHeartbeats 4000000 in
set_option maxRecDepth 100000 in
theorem m_L_manyx (l : Launch) (hl9 : l.stackTraces = false) (dC : Nat → ClassId) (dI : Nat → Nat → Nat) (ca : Nat → ClassId) (sf : Nat) (ad : Nat → Nat) (ad2 : Nat → Nat) (ob : Nat) (M : zM) (N : zM) (a0 : Int32) (h_n : ¬ z_rg a0 0 12) : Met l yL_many wsL_many ({ frames := 8, cells := 1, slots := 6, locals := 125 }) (z_P9 (dC, dI) vwCl (lt9 ca) zw_nest [.ref sf, .int a0, .ref ob] zFa (fun H => zT dC dI ca sf (ad 0) (ad2 0) H ∧ zW dC dI ca ad M H ∧ zW dC dI ca ad2 N H)) (z_Qi 1 (fun _ => True) zFa) 1 6 zFa := by
  refine va_MetW (cc := cL_many) (maxL := 4) (ret := (some .int)) (by decide) rfl ?_
  intro p e s m args below meth c s₁ B9 hml hv
  obtain ⟨rfl, ⟨hT, hH, hG⟩, hK, hN, hEx⟩ := hv
  have hx := B9.exec
  have hb := B9.bytes
  have hr := B9.returns
  have hts := atoms_spec (ws := wsL_many) B9.pre
  have hown : s.vm.findClass RL = some m.cls := findClass_of_methodNamed B9.named
  have hlocks := B9.notSynchronized
  have hS : va_S zFa s.heap s.heap [] := va_S.rf
  have hK5 : va_K (dC, dI) vwCl (zt ca) s := va_K.sub hK [0, 1, 2, 3, 4] rfl
  have hT : zT dC dI ca sf (ad 0) (ad2 0) s.heap := hT
  have hH : zW dC dI ca ad M s.heap := hH
  have hG : zW dC dI ca ad2 N s.heap := hG
  have hl := lv_entry ([.ref sf, .int a0, .ref ob]) (n := 4) (Nat.le_of_ble_eq_true rfl)
  rw [lg_entry_eq]
  generalize (lg_sl ([.ref sf, .int a0, .ref ob]) ++ List.replicate (4 - (lg_sl ([.ref sf, .int a0, .ref ob])).length) Slot.unset).toArray = ls at hl ⊢
  have hl : lv_has ls 4 [(0, .ref sf), (1, .int a0), (2, .ref ob)] := hl
  have htab : c.exceptionTable.toList = [] ++ ⟨0, 9, 12, 13⟩ :: [] := vx_table (x := yL_many) B9 (hts _ List.mem_cons_self)
  refine lv_aload_n hx hb dL_many_0 rfl (lv_at hl 2 rfl) ?_
  refine lv_iconst (v := 0) hx hb dL_many_1 (by decide) ?_
  refine lv_aload_n hx hb dL_many_2 rfl (lv_at hl 0 rfl) ?_
  refine lv_iload_n hx hb dL_many_3 rfl (lv_at hl 1 rfl) ?_
  refine z_cV9 (D := (dC, dI)) (cl := vwCl) (tys := zt ca) (nw := zw_nest) (C := RX8) (As := [.int a0]) (rest := [.int 0, .ref ob]) ⟨hx, hb, hml, hown, hts⟩ (m_X8_manyx l hl9 dC dI ca sf ad ad2 M N a0 h_n) (cwV 1 hts gL_many_X8_many rfl rfl rfl (by decide +kernel) ⟨Nat.le_of_ble_eq_true rfl, Nat.le_of_ble_eq_true rfl⟩) (z_recv (ci := 8) (i := 0) hK5 hT rfl (by decide) rfl) ⟨hT, hH, hG⟩ hK5 hN hEx zw_nest_ok rfl hl.1 rfl (Nat.le_of_ble_eq_true rfl) dL_many_4 ⟨Nat.le_of_ble_eq_true rfl, Nat.le_of_ble_eq_true rfl⟩ hS (fun ce q9 H locs hS hce hcv hcl => ?_)
  refine vx_catch (own := RL) (name := zIAE) (E := zIAE) hown [] ⟨0, 9, 12, 13⟩ [] htab (fun z hz => absurd hz List.not_mem_nil) (by decide) (by decide) (hts (.classLink RL 13 zIAE) (by decide +kernel)) (va_Nw.use rfl (hEx.2.2.2.2.1 _ (by decide +kernel))) hce hcv hcl ?_
  refine lv_astore_n (lv' := [(3, .ref q9), (0, .ref sf), (1, .int a0), (2, .ref ob)]) hx hb dL_many_12 rfl hl (by decide) rfl (fun ls hl => ?_)
  refine lv_iconst (v := 1) hx hb dL_many_13 (by decide) ?_
  exact W.iret (v := 1) hx hb hr (fun t ht hW => ⟨⟨1, (), rfl, rfl, trivial⟩, hS.F ht⟩) hS.2.2 dL_many_14
set_option maxHeartbeats 4000000 in
set_option maxRecDepth 100000 in
theorem m_L_wouldGivex (l : Launch) (hl9 : l.stackTraces = false) (dC : Nat → ClassId) (dI : Nat → Nat → Nat) (ca : Nat → ClassId) (sf : Nat) (ad : Nat → Nat) (ad2 : Nat → Nat) (ob : Nat) (M : zM) (N : zM) (a0 : Int32) (h_n : ¬ z_rg a0 1 30) : Met l yL_wouldGive wsL_wouldGive ({ frames := 8, cells := 1, slots := 6, locals := 125 }) (z_P9 (dC, dI) vwCl (lt9 ca) zw_nest [.ref sf, .int a0, .ref ob] zFa (fun H => zT dC dI ca sf (ad 0) (ad2 0) H ∧ zW dC dI ca ad M H ∧ zW dC dI ca ad2 N H)) (z_Qi 1 (fun _ => True) zFa) 1 6 zFa := by
  refine va_MetW (cc := cL_wouldGive) (maxL := 4) (ret := (some .int)) (by decide) rfl ?_
  intro p e s m args below meth c s₁ B9 hml hv
  obtain ⟨rfl, ⟨hT, hH, hG⟩, hK, hN, hEx⟩ := hv
  have hx := B9.exec
  have hb := B9.bytes
  have hr := B9.returns
  have hts := atoms_spec (ws := wsL_wouldGive) B9.pre
  have hown : s.vm.findClass RL = some m.cls := findClass_of_methodNamed B9.named
  have hlocks := B9.notSynchronized
  have hS : va_S zFa s.heap s.heap [] := va_S.rf
  have hK5 : va_K (dC, dI) vwCl (zt ca) s := va_K.sub hK [0, 1, 2, 3, 4] rfl
  have hT : zT dC dI ca sf (ad 0) (ad2 0) s.heap := hT
  have hH : zW dC dI ca ad M s.heap := hH
  have hG : zW dC dI ca ad2 N s.heap := hG
  have hl := lv_entry ([.ref sf, .int a0, .ref ob]) (n := 4) (Nat.le_of_ble_eq_true rfl)
  rw [lg_entry_eq]
  generalize (lg_sl ([.ref sf, .int a0, .ref ob]) ++ List.replicate (4 - (lg_sl ([.ref sf, .int a0, .ref ob])).length) Slot.unset).toArray = ls at hl ⊢
  have hl : lv_has ls 4 [(0, .ref sf), (1, .int a0), (2, .ref ob)] := hl
  have htab : c.exceptionTable.toList = [] ++ ⟨0, 9, 12, 13⟩ :: [] := vx_table (x := yL_wouldGive) B9 (hts _ List.mem_cons_self)
  refine lv_aload_n hx hb dL_wouldGive_0 rfl (lv_at hl 2 rfl) ?_
  refine lv_iconst (v := 0) hx hb dL_wouldGive_1 (by decide) ?_
  refine lv_aload_n hx hb dL_wouldGive_2 rfl (lv_at hl 0 rfl) ?_
  refine lv_iload_n hx hb dL_wouldGive_3 rfl (lv_at hl 1 rfl) ?_
  refine z_cV9 (D := (dC, dI)) (cl := vwCl) (tys := zt ca) (nw := zw_nest) (C := RX8) (As := [.int a0]) (rest := [.int 0, .ref ob]) ⟨hx, hb, hml, hown, hts⟩ (m_X8_wouldGivex l hl9 dC dI ca sf ad ad2 M N a0 h_n) (cwV 1 hts gL_wouldGive_X8_wouldGive rfl rfl rfl (by decide +kernel) ⟨Nat.le_of_ble_eq_true rfl, Nat.le_of_ble_eq_true rfl⟩) (z_recv (ci := 8) (i := 0) hK5 hT rfl (by decide) rfl) ⟨hT, hH, hG⟩ hK5 hN hEx zw_nest_ok rfl hl.1 rfl (Nat.le_of_ble_eq_true rfl) dL_wouldGive_4 ⟨Nat.le_of_ble_eq_true rfl, Nat.le_of_ble_eq_true rfl⟩ hS (fun ce q9 H locs hS hce hcv hcl => ?_)
  refine vx_catch (own := RL) (name := zIAE) (E := zIAE) hown [] ⟨0, 9, 12, 13⟩ [] htab (fun z hz => absurd hz List.not_mem_nil) (by decide) (by decide) (hts (.classLink RL 13 zIAE) (by decide +kernel)) (va_Nw.use rfl (hEx.2.2.2.2.1 _ (by decide +kernel))) hce hcv hcl ?_
  refine lv_astore_n (lv' := [(3, .ref q9), (0, .ref sf), (1, .int a0), (2, .ref ob)]) hx hb dL_wouldGive_12 rfl hl (by decide) rfl (fun ls hl => ?_)
  refine lv_iconst (v := 1) hx hb dL_wouldGive_13 (by decide) ?_
  exact W.iret (v := 1) hx hb hr (fun t ht hW => ⟨⟨1, (), rfl, rfl, trivial⟩, hS.F ht⟩) hS.2.2 dL_wouldGive_14
set_option maxHeartbeats 4000000 in
set_option maxRecDepth 100000 in
theorem m_L_coldInx (l : Launch) (hl9 : l.stackTraces = false) (dC : Nat → ClassId) (dI : Nat → Nat → Nat) (ca : Nat → ClassId) (sf : Nat) (ad : Nat → Nat) (ad2 : Nat → Nat) (ob : Nat) (M : zM) (N : zM) (a0 a1 : Int32) (h_n : ¬ z_ni a0 (M 0 12)) : Met l yL_coldIn wsL_coldIn ({ frames := 8, cells := 1, slots := 6, locals := 127 }) (z_P9 (dC, dI) vwCl (lt9 ca) zw_nest [.ref sf, .int a0, .int a1, .ref ob] zFa (fun H => zT dC dI ca sf (ad 0) (ad2 0) H ∧ zW dC dI ca ad M H ∧ zW dC dI ca ad2 N H)) (z_Qi 1 (fun _ => True) zFa) 1 6 zFa := by
  refine va_MetW (cc := cL_coldIn) (maxL := 5) (ret := (some .int)) (by decide) rfl ?_
  intro p e s m args below meth c s₁ B9 hml hv
  obtain ⟨rfl, ⟨hT, hH, hG⟩, hK, hN, hEx⟩ := hv
  have hx := B9.exec
  have hb := B9.bytes
  have hr := B9.returns
  have hts := atoms_spec (ws := wsL_coldIn) B9.pre
  have hown : s.vm.findClass RL = some m.cls := findClass_of_methodNamed B9.named
  have hlocks := B9.notSynchronized
  have hS : va_S zFa s.heap s.heap [] := va_S.rf
  have hK5 : va_K (dC, dI) vwCl (zt ca) s := va_K.sub hK [0, 1, 2, 3, 4] rfl
  have hT : zT dC dI ca sf (ad 0) (ad2 0) s.heap := hT
  have hH : zW dC dI ca ad M s.heap := hH
  have hG : zW dC dI ca ad2 N s.heap := hG
  have hl := lv_entry ([.ref sf, .int a0, .int a1, .ref ob]) (n := 5) (Nat.le_of_ble_eq_true rfl)
  rw [lg_entry_eq]
  generalize (lg_sl ([.ref sf, .int a0, .int a1, .ref ob]) ++ List.replicate (5 - (lg_sl ([.ref sf, .int a0, .int a1, .ref ob])).length) Slot.unset).toArray = ls at hl ⊢
  have hl : lv_has ls 5 [(0, .ref sf), (1, .int a0), (2, .int a1), (3, .ref ob)] := hl
  have htab : c.exceptionTable.toList = [] ++ ⟨0, 10, 13, 21⟩ :: [⟨0, 10, 17, 13⟩] := vx_table (x := yL_coldIn) B9 (hts _ List.mem_cons_self)
  refine lv_aload_n hx hb dL_coldIn_0 rfl (lv_at hl 3 rfl) ?_
  refine lv_iconst (v := 0) hx hb dL_coldIn_1 (by decide) ?_
  refine lv_aload_n hx hb dL_coldIn_2 rfl (lv_at hl 0 rfl) ?_
  refine lv_iload_n hx hb dL_coldIn_3 rfl (lv_at hl 1 rfl) ?_
  refine lv_iload_n hx hb dL_coldIn_4 rfl (lv_at hl 2 rfl) ?_
  refine z_cV9 (D := (dC, dI)) (cl := vwCl) (tys := zt ca) (nw := zw_nest) (C := RX8) (As := [.int a0, .int a1]) (rest := [.int 0, .ref ob]) ⟨hx, hb, hml, hown, hts⟩ (m_X8_coldInx l hl9 dC dI ca sf ad ad2 M N a0 a1 h_n) (cwV 2 hts gL_coldIn_X8_coldIn rfl rfl rfl (by decide +kernel) ⟨Nat.le_of_ble_eq_true rfl, Nat.le_of_ble_eq_true rfl⟩) (z_recv (ci := 8) (i := 0) hK5 hT rfl (by decide) rfl) ⟨hT, hH, hG⟩ hK5 hN hEx zw_nest_ok rfl hl.1 rfl (Nat.le_of_ble_eq_true rfl) dL_coldIn_5 ⟨Nat.le_of_ble_eq_true rfl, Nat.le_of_ble_eq_true rfl⟩ hS (fun ce q9 H locs hS hce hcv hcl => ?_)
  refine vx_catch (own := RL) (name := zIOB) (E := zIOB) hown [] ⟨0, 10, 13, 21⟩ [⟨0, 10, 17, 13⟩] htab (fun z hz => absurd hz List.not_mem_nil) (by decide) (by decide) (hts (.classLink RL 21 zIOB) (by decide +kernel)) (va_Nw.use rfl (hEx.2.2.2.2.1 _ (by decide +kernel))) hce hcv hcl ?_
  refine lv_astore (lv' := [(4, .ref q9), (0, .ref sf), (1, .int a0), (2, .int a1), (3, .ref ob)]) hx hb dL_coldIn_13 hl (by decide) rfl (fun ls hl => ?_)
  refine lv_iconst (v := 1) hx hb dL_coldIn_15 (by decide) ?_
  exact W.iret (v := 1) hx hb hr (fun t ht hW => ⟨⟨1, (), rfl, rfl, trivial⟩, hS.F ht⟩) hS.2.2 dL_coldIn_16
set_option maxHeartbeats 4000000 in
set_option maxRecDepth 100000 in
theorem m_L_causedByx (l : Launch) (hl9 : l.stackTraces = false) (dC : Nat → ClassId) (dI : Nat → Nat → Nat) (ca : Nat → ClassId) (sf : Nat) (ad : Nat → Nat) (ad2 : Nat → Nat) (ob : Nat) (M : zM) (N : zM) (a0 a1 a2 : Int32) (h_n : ¬ z_ni a0 (M 0 13)) : Met l yL_causedBy wsL_causedBy ({ frames := 8, cells := 1, slots := 6, locals := 127 }) (z_P9 (dC, dI) vwCl (lt9 ca) zw_nest [.ref sf, .int a0, .int a1, .int a2, .ref ob] zFa (fun H => zT dC dI ca sf (ad 0) (ad2 0) H ∧ zW dC dI ca ad M H ∧ zW dC dI ca ad2 N H)) (z_Qi 1 (fun _ => True) zFa) 1 6 zFa := by
  refine va_MetW (cc := cL_causedBy) (maxL := 6) (ret := (some .int)) (by decide) rfl ?_
  intro p e s m args below meth c s₁ B9 hml hv
  obtain ⟨rfl, ⟨hT, hH, hG⟩, hK, hN, hEx⟩ := hv
  have hx := B9.exec
  have hb := B9.bytes
  have hr := B9.returns
  have hts := atoms_spec (ws := wsL_causedBy) B9.pre
  have hown : s.vm.findClass RL = some m.cls := findClass_of_methodNamed B9.named
  have hlocks := B9.notSynchronized
  have hS : va_S zFa s.heap s.heap [] := va_S.rf
  have hK5 : va_K (dC, dI) vwCl (zt ca) s := va_K.sub hK [0, 1, 2, 3, 4] rfl
  have hT : zT dC dI ca sf (ad 0) (ad2 0) s.heap := hT
  have hH : zW dC dI ca ad M s.heap := hH
  have hG : zW dC dI ca ad2 N s.heap := hG
  have hl := lv_entry ([.ref sf, .int a0, .int a1, .int a2, .ref ob]) (n := 6) (Nat.le_of_ble_eq_true rfl)
  rw [lg_entry_eq]
  generalize (lg_sl ([.ref sf, .int a0, .int a1, .int a2, .ref ob]) ++ List.replicate (6 - (lg_sl ([.ref sf, .int a0, .int a1, .int a2, .ref ob])).length) Slot.unset).toArray = ls at hl ⊢
  have hl : lv_has ls 6 [(0, .ref sf), (1, .int a0), (2, .int a1), (3, .int a2), (4, .ref ob)] := hl
  have htab : c.exceptionTable.toList = [] ++ ⟨0, 12, 15, 21⟩ :: [⟨0, 12, 19, 13⟩] := vx_table (x := yL_causedBy) B9 (hts _ List.mem_cons_self)
  refine lv_aload hx hb dL_causedBy_0 (lv_at hl 4 rfl) ?_
  refine lv_iconst (v := 0) hx hb dL_causedBy_2 (by decide) ?_
  refine lv_aload_n hx hb dL_causedBy_3 rfl (lv_at hl 0 rfl) ?_
  refine lv_iload_n hx hb dL_causedBy_4 rfl (lv_at hl 1 rfl) ?_
  refine lv_iload_n hx hb dL_causedBy_5 rfl (lv_at hl 2 rfl) ?_
  refine lv_iload_n hx hb dL_causedBy_6 rfl (lv_at hl 3 rfl) ?_
  refine z_cV9 (D := (dC, dI)) (cl := vwCl) (tys := zt ca) (nw := zw_nest) (C := RX8) (As := [.int a0, .int a1, .int a2]) (rest := [.int 0, .ref ob]) ⟨hx, hb, hml, hown, hts⟩ (m_X8_causedByx l hl9 dC dI ca sf ad ad2 M N a0 a1 a2 h_n) (cwV 3 hts gL_causedBy_X8_causedBy rfl rfl rfl (by decide +kernel) ⟨Nat.le_of_ble_eq_true rfl, Nat.le_of_ble_eq_true rfl⟩) (z_recv (ci := 8) (i := 0) hK5 hT rfl (by decide) rfl) ⟨hT, hH, hG⟩ hK5 hN hEx zw_nest_ok rfl hl.1 rfl (Nat.le_of_ble_eq_true rfl) dL_causedBy_7 ⟨Nat.le_of_ble_eq_true rfl, Nat.le_of_ble_eq_true rfl⟩ hS (fun ce q9 H locs hS hce hcv hcl => ?_)
  refine vx_catch (own := RL) (name := zIOB) (E := zIOB) hown [] ⟨0, 12, 15, 21⟩ [⟨0, 12, 19, 13⟩] htab (fun z hz => absurd hz List.not_mem_nil) (by decide) (by decide) (hts (.classLink RL 21 zIOB) (by decide +kernel)) (va_Nw.use rfl (hEx.2.2.2.2.1 _ (by decide +kernel))) hce hcv hcl ?_
  refine lv_astore (lv' := [(5, .ref q9), (0, .ref sf), (1, .int a0), (2, .int a1), (3, .int a2), (4, .ref ob)]) hx hb dL_causedBy_15 hl (by decide) rfl (fun ls hl => ?_)
  refine lv_iconst (v := 1) hx hb dL_causedBy_17 (by decide) ?_
  exact W.iret (v := 1) hx hb hr (fun t ht hW => ⟨⟨1, (), rfl, rfl, trivial⟩, hS.F ht⟩) hS.2.2 dL_causedBy_18
set_option maxHeartbeats 4000000 in
set_option maxRecDepth 100000 in
theorem m_L_bestValvesx (l : Launch) (hl9 : l.stackTraces = false) (dC : Nat → ClassId) (dI : Nat → Nat → Nat) (ca : Nat → ClassId) (sf : Nat) (ad : Nat → Nat) (ad2 : Nat → Nat) (ob : Nat) (M : zM) (N : zM) (a0 : Int32) (h_n : ¬ z_rg a0 1 12) : Met l yL_bestValves wsL_bestValves ({ frames := 8, cells := 1, slots := 6, locals := 132 }) (z_P9 (dC, dI) vwCl (lt9 ca) zw_nest [.ref sf, .int a0, .ref ob] zFa (fun H => zT dC dI ca sf (ad 0) (ad2 0) H ∧ zW dC dI ca ad M H ∧ zW dC dI ca ad2 N H)) (z_Qi 1 (fun _ => True) zFa) 1 6 zFa := by
  refine va_MetW (cc := cL_bestValves) (maxL := 4) (ret := (some .int)) (by decide) rfl ?_
  intro p e s m args below meth c s₁ B9 hml hv
  obtain ⟨rfl, ⟨hT, hH, hG⟩, hK, hN, hEx⟩ := hv
  have hx := B9.exec
  have hb := B9.bytes
  have hr := B9.returns
  have hts := atoms_spec (ws := wsL_bestValves) B9.pre
  have hown : s.vm.findClass RL = some m.cls := findClass_of_methodNamed B9.named
  have hlocks := B9.notSynchronized
  have hS : va_S zFa s.heap s.heap [] := va_S.rf
  have hK5 : va_K (dC, dI) vwCl (zt ca) s := va_K.sub hK [0, 1, 2, 3, 4] rfl
  have hT : zT dC dI ca sf (ad 0) (ad2 0) s.heap := hT
  have hH : zW dC dI ca ad M s.heap := hH
  have hG : zW dC dI ca ad2 N s.heap := hG
  have hl := lv_entry ([.ref sf, .int a0, .ref ob]) (n := 4) (Nat.le_of_ble_eq_true rfl)
  rw [lg_entry_eq]
  generalize (lg_sl ([.ref sf, .int a0, .ref ob]) ++ List.replicate (4 - (lg_sl ([.ref sf, .int a0, .ref ob])).length) Slot.unset).toArray = ls at hl ⊢
  have hl : lv_has ls 4 [(0, .ref sf), (1, .int a0), (2, .ref ob)] := hl
  have htab : c.exceptionTable.toList = [] ++ ⟨0, 9, 12, 13⟩ :: [] := vx_table (x := yL_bestValves) B9 (hts _ List.mem_cons_self)
  refine lv_aload_n hx hb dL_bestValves_0 rfl (lv_at hl 2 rfl) ?_
  refine lv_iconst (v := 0) hx hb dL_bestValves_1 (by decide) ?_
  refine lv_aload_n hx hb dL_bestValves_2 rfl (lv_at hl 0 rfl) ?_
  refine lv_iload_n hx hb dL_bestValves_3 rfl (lv_at hl 1 rfl) ?_
  refine z_cV9 (D := (dC, dI)) (cl := vwCl) (tys := zt ca) (nw := zw_nest) (C := RX8) (As := [.int a0]) (rest := [.int 0, .ref ob]) ⟨hx, hb, hml, hown, hts⟩ (m_X8_bestValvesx l hl9 dC dI ca sf ad ad2 M N a0 h_n) (cwV 1 hts gL_bestValves_X8_bestValves rfl rfl rfl (by decide +kernel) ⟨Nat.le_of_ble_eq_true rfl, Nat.le_of_ble_eq_true rfl⟩) (z_recv (ci := 8) (i := 0) hK5 hT rfl (by decide) rfl) ⟨hT, hH, hG⟩ hK5 hN hEx zw_nest_ok rfl hl.1 rfl (Nat.le_of_ble_eq_true rfl) dL_bestValves_4 ⟨Nat.le_of_ble_eq_true rfl, Nat.le_of_ble_eq_true rfl⟩ hS (fun ce q9 H locs hS hce hcv hcl => ?_)
  refine vx_catch (own := RL) (name := zIAE) (E := zIAE) hown [] ⟨0, 9, 12, 13⟩ [] htab (fun z hz => absurd hz List.not_mem_nil) (by decide) (by decide) (hts (.classLink RL 13 zIAE) (by decide +kernel)) (va_Nw.use rfl (hEx.2.2.2.2.1 _ (by decide +kernel))) hce hcv hcl ?_
  refine lv_astore_n (lv' := [(3, .ref q9), (0, .ref sf), (1, .int a0), (2, .ref ob)]) hx hb dL_bestValves_12 rfl hl (by decide) rfl (fun ls hl => ?_)
  refine lv_iconst (v := 1) hx hb dL_bestValves_13 (by decide) ?_
  exact W.iret (v := 1) hx hb hr (fun t ht hW => ⟨⟨1, (), rfl, rfl, trivial⟩, hS.F ht⟩) hS.2.2 dL_bestValves_14
set_option maxHeartbeats 4000000 in
set_option maxRecDepth 100000 in
theorem m_L_ofOwnerz (l : Launch) (hl9 : l.stackTraces = false) (dC : Nat → ClassId) (dI : Nat → Nat → Nat) (ca : Nat → ClassId) (sf : Nat) (ad : Nat → Nat) (ad2 : Nat → Nat) (ob : Nat) (M : zM) (N : zM) (a0 a1 : Int32) (h_i : z_ni a0 2) (h_n : ¬ z_rg a1 0 1) : Met l yL_ofOwner wsL_ofOwner ({ frames := 8, cells := 1, slots := 6, locals := 126 }) (z_P9 (dC, dI) vwCl (lt9 ca) zw_nest [.ref sf, .int a0, .int a1, .ref ob] zFa (fun H => zT dC dI ca sf (ad 0) (ad2 0) H ∧ zW dC dI ca ad M H ∧ zW dC dI ca ad2 N H)) (z_Qi 2 (fun _ => True) zFa) 1 6 zFa := by
  refine va_MetW (cc := cL_ofOwner) (maxL := 5) (ret := (some .int)) (by decide) rfl ?_
  intro p e s m args below meth c s₁ B9 hml hv
  obtain ⟨rfl, ⟨hT, hH, hG⟩, hK, hN, hEx⟩ := hv
  have hx := B9.exec
  have hb := B9.bytes
  have hr := B9.returns
  have hts := atoms_spec (ws := wsL_ofOwner) B9.pre
  have hown : s.vm.findClass RL = some m.cls := findClass_of_methodNamed B9.named
  have hlocks := B9.notSynchronized
  have hS : va_S zFa s.heap s.heap [] := va_S.rf
  have hK5 : va_K (dC, dI) vwCl (zt ca) s := va_K.sub hK [0, 1, 2, 3, 4] rfl
  have hT : zT dC dI ca sf (ad 0) (ad2 0) s.heap := hT
  have hH : zW dC dI ca ad M s.heap := hH
  have hG : zW dC dI ca ad2 N s.heap := hG
  have hl := lv_entry ([.ref sf, .int a0, .int a1, .ref ob]) (n := 5) (Nat.le_of_ble_eq_true rfl)
  rw [lg_entry_eq]
  generalize (lg_sl ([.ref sf, .int a0, .int a1, .ref ob]) ++ List.replicate (5 - (lg_sl ([.ref sf, .int a0, .int a1, .ref ob])).length) Slot.unset).toArray = ls at hl ⊢
  have hl : lv_has ls 5 [(0, .ref sf), (1, .int a0), (2, .int a1), (3, .ref ob)] := hl
  have htab : c.exceptionTable.toList = [⟨0, 10, 13, 21⟩] ++ ⟨0, 10, 17, 13⟩ :: [] := vx_table (x := yL_ofOwner) B9 (hts _ List.mem_cons_self)
  refine lv_aload_n hx hb dL_ofOwner_0 rfl (lv_at hl 3 rfl) ?_
  refine lv_iconst (v := 0) hx hb dL_ofOwner_1 (by decide) ?_
  refine lv_aload_n hx hb dL_ofOwner_2 rfl (lv_at hl 0 rfl) ?_
  refine lv_iload_n hx hb dL_ofOwner_3 rfl (lv_at hl 1 rfl) ?_
  refine lv_iload_n hx hb dL_ofOwner_4 rfl (lv_at hl 2 rfl) ?_
  refine z_cV9 (D := (dC, dI)) (cl := vwCl) (tys := zt ca) (nw := zw_nest) (C := RX8) (As := [.int a0, .int a1]) (rest := [.int 0, .ref ob]) ⟨hx, hb, hml, hown, hts⟩ (m_X8_ofOwnerz l hl9 dC dI ca sf ad ad2 M N a0 a1 h_i h_n) (cwV 2 hts gL_ofOwner_X8_ofOwner rfl rfl rfl (by decide +kernel) ⟨Nat.le_of_ble_eq_true rfl, Nat.le_of_ble_eq_true rfl⟩) (z_recv (ci := 8) (i := 0) hK5 hT rfl (by decide) rfl) ⟨hT, hH, hG⟩ hK5 hN hEx zw_nest_ok rfl hl.1 rfl (Nat.le_of_ble_eq_true rfl) dL_ofOwner_5 ⟨Nat.le_of_ble_eq_true rfl, Nat.le_of_ble_eq_true rfl⟩ hS (fun ce q9 H locs hS hce hcv hcl => ?_)
  refine vx_catch (own := RL) (name := zIAE) (E := zIAE) hown [⟨0, 10, 13, 21⟩] ⟨0, 10, 17, 13⟩ [] htab (fun z hz => by obtain rfl := List.mem_singleton.mp hz; exact Or.inr ⟨by decide, zIOB, hts (.classLink RL 21 zIOB) (by decide +kernel), hEx.2.2.2.2.2⟩) (by decide) (by decide) (hts (.classLink RL 13 zIAE) (by decide +kernel)) (va_Nw.use rfl (hEx.2.2.2.2.1 _ (by decide +kernel))) hce hcv hcl ?_
  refine lv_astore (lv' := [(4, .ref q9), (0, .ref sf), (1, .int a0), (2, .int a1), (3, .ref ob)]) hx hb dL_ofOwner_17 hl (by decide) rfl (fun ls hl => ?_)
  refine lv_iconst (v := 2) hx hb dL_ofOwner_19 (by decide) ?_
  exact W.iret (v := 2) hx hb hr (fun t ht hW => ⟨⟨2, (), rfl, rfl, trivial⟩, hS.F ht⟩) hS.2.2 dL_ofOwner_20
