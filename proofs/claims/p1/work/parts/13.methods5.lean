def rX8_pond (M : zM) (N : zM) (a0 : Int32) : Int32 :=
  let x1 : Int32 := rX6_part M 5 a0
  x1
set_option maxHeartbeats 4000000 in
set_option maxRecDepth 100000 in
theorem m_X8_pond (l : Launch) (dC : Nat → ClassId) (dI : Nat → Nat → Nat) (ca : Nat → ClassId) (sf : Nat) (ad : Nat → Nat) (hI : z_I zd ad) (ad2 : Nat → Nat) (hI2 : z_I zd ad2) (hq : zSep sf ad ad2) (M : zM) (N : zM) (a0 : Int32) (hOk0 : z_Ok M) (r_a0 : z_rg a0 0 3) : Met l yX8_pond wsX8_pond ({ frames := 1, cells := 0, slots := 0, locals := 22 }) (z_Pc (dC, dI) vwCl (zt ca) zw_nest [.ref sf, .int a0] (fun H => zT dC dI ca sf (ad 0) (ad2 0) H ∧ zW dC dI ca ad M H ∧ zW dC dI ca ad2 N H)) (z_Qi (rX8_pond M N a0) (fun H => zT dC dI ca sf (ad 0) (ad2 0) H ∧ zW dC dI ca ad M H ∧ zW dC dI ca ad2 N H) (zA2 ad ad2)) 0 0 (zA2 ad ad2) := by
  refine Met.ofW (cc := cX8_pond) (maxL := 2) (ret := (some .int)) (by decide) rfl ?_
  intro p e s m args below meth c s₁ B9 hml hv
  obtain ⟨rfl, ⟨hT, hH, hG⟩, hK, hN⟩ := hv
  have hx := B9.exec
  have hb := B9.bytes
  have hr := B9.returns
  have hts := atoms_spec (ws := wsX8_pond) B9.pre
  have hown : s.vm.findClass RX8 = some m.cls := findClass_of_methodNamed B9.named
  have hlocks := B9.notSynchronized
  have hS : va_S (zA2 ad ad2) s.heap s.heap [] := va_S.rf
  have hOk := hOk0
  have hFx : z_Fx M M := z_Fx.rf
  have hT : zT dC dI ca sf (ad 0) (ad2 0) s.heap := hT
  have hH : zW dC dI ca ad M s.heap := hH
  have hG : zW dC dI ca ad2 N s.heap := hG
  have hinX3 : ∀ w ∈ u_ws RX3 TX3 15, w ∈ wsX8_pond := by decide +kernel
  have hinX8 : ∀ w ∈ u_ws RX8 TX8 2, w ∈ wsX8_pond := by decide +kernel
  have hl := lv_entry ([.ref sf, .int a0]) (n := 2) (Nat.le_of_ble_eq_true rfl)
  rw [lg_entry_eq]
  generalize (lg_sl ([.ref sf, .int a0]) ++ List.replicate (2 - (lg_sl ([.ref sf, .int a0])).length) Slot.unset).toArray = ls at hl ⊢
  have hl : lv_has ls 2 [(0, .ref sf), (1, .int a0)] := hl
  refine lv_iload_n hx hb dX8_pond_0 rfl (lv_at hl 1 rfl) ?_
  refine lv_iconst (v := 0) hx hb dX8_pond_1 (by decide) ?_
  refine lv_iconst (v := 3) hx hb dX8_pond_2 (by decide) ?_
  refine z_cSv (D := (dC, dI)) (cl := vwCl) (tys := zt ca) (nw := zw_nest) (As := [.int a0, .int 0, .int 3]) (rest := []) ⟨hx, hb, hml, hown, hts⟩ (m_X8_needRange l dC dI ca (fun z : Heap => z = s.heap)  a0 0 3 r_a0) (cwS 3 hts gX8_pond_X8_needRange rfl rfl rfl (by decide +kernel) ⟨Nat.le_of_ble_eq_true rfl, Nat.le_of_ble_eq_true rfl⟩) rfl hK hN zw_nest_ok rfl hl.1 rfl (Nat.le_of_ble_eq_true rfl) dX8_pond_3 ⟨Nat.le_refl _, Nat.le_refl _⟩ hS (fun _ h => h.elim) (fun H locs hB1 oq1 hz1 hS => ?_)
  have hT : zT dC dI ca sf (ad 0) (ad2 0) H := by rw [hB1]; exact hT
  have hH : zW dC dI ca ad M H := by rw [hB1]; exact hH
  have hG : zW dC dI ca ad2 N H := by rw [hB1]; exact hG
  refine lv_aload_n hx hb dX8_pond_6 rfl (lv_at hl 0 rfl) ?_
  refine z_gS (k := 0) (v := ad 0) hx hb hts hinX8 hown hK hT (by decide) rfl (hts (.fieldLink RX8 10 "Steamfield" "land" "LSteamfield$Land;") (by decide +kernel)) (fun _ h9 => h9) dX8_pond_7 ?_
  refine z_grN (D := (dC, dI)) (cl := vwCl) (C := RX3) (T := TX3) (N := 15) (ci := 3) (k := 4) hx hb hts hinX3 hown hK hH zk_0 (by decide) rfl (by decide) rfl (zr_0 (k := 4) (by decide)) (hN (.fieldLinkNest RX8 203 "Steamfield$Land" "pond" "LSteamfield$Water;" "Steamfield") (by decide +kernel)) (fun _ h9 => h9) dX8_pond_10 ?_
  refine lv_iload_n hx hb dX8_pond_13 rfl (lv_at hl 1 rfl) ?_
  refine z_cVi (D := (dC, dI)) (cl := vwCl) (tys := zt ca) (nw := zw_nest) (C := RX6) (As := [.int a0]) (rest := []) ⟨hx, hb, hml, hown, hts⟩ (m_X6_part l dC dI ca ad hI M 5 zk_5 a0) (cwV 1 hts gX8_pond_X6_part rfl rfl rfl (by decide +kernel) ⟨Nat.le_of_ble_eq_true rfl, Nat.le_of_ble_eq_true rfl⟩) (z_recv (ci := 6) (i := 5) hK hH zk_5 (by decide) rfl) hH hK hN zw_nest_ok rfl hl.1 rfl (Nat.le_of_ble_eq_true rfl) dX8_pond_14 ⟨Nat.le_refl _, Nat.le_refl _⟩ hS (fun _ h => Or.inl h) (fun H locs hB1 oq1 hz1 hS => ?_)
  have hT := zT_c hT oq1 hq.a1
  have hG := zW_c hG oq1 hq.x
  have hH := hB1
  refine lv_topi (fun x1 ex1 => ?_)
  have hR : x1 = rX8_pond M N a0 := by subst ex1; rfl
  exact W.iret (v := x1) hx hb hr (fun t ht hW => ⟨⟨x1, (), rfl, hR, z_to (B := fun H => zT dC dI ca sf (ad 0) (ad2 0) H ∧ zW dC dI ca ad M H ∧ zW dC dI ca ad2 N H) ht ⟨hT, hH, hG⟩⟩, hS.F ht⟩) hS.2.2 dX8_pond_17

def rX8_ofOwner (M : zM) (N : zM) (a0 : Int32) (a1 : Int32) : Int32 :=
  let x2 : Int32 := if ¬ a1 = 0 then (let x2 : Int32 := rX3_shareOf M a0; x2) else (let x2 : Int32 := M 8 a0.toNatClampNeg; x2)
  x2
set_option maxHeartbeats 4000000 in
set_option maxRecDepth 100000 in
theorem m_X8_ofOwner (l : Launch) (dC : Nat → ClassId) (dI : Nat → Nat → Nat) (ca : Nat → ClassId) (sf : Nat) (ad : Nat → Nat) (hI : z_I zd ad) (ad2 : Nat → Nat) (hI2 : z_I zd ad2) (hq : zSep sf ad ad2) (M : zM) (N : zM) (a0 : Int32) (a1 : Int32) (hOk0 : z_Ok M) (h_a0 : z_ix a0 2) (r_a1 : z_rg a1 0 1) : Met l yX8_ofOwner wsX8_ofOwner ({ frames := 1, cells := 0, slots := 0, locals := 23 }) (z_Pc (dC, dI) vwCl (zt ca) zw_nest [.ref sf, .int a0, .int a1] (fun H => zT dC dI ca sf (ad 0) (ad2 0) H ∧ zW dC dI ca ad M H ∧ zW dC dI ca ad2 N H)) (z_Qi (rX8_ofOwner M N a0 a1) (fun H => zT dC dI ca sf (ad 0) (ad2 0) H ∧ zW dC dI ca ad M H ∧ zW dC dI ca ad2 N H) (zA2 ad ad2)) 0 0 (zA2 ad ad2) := by
  refine Met.ofW (cc := cX8_ofOwner) (maxL := 3) (ret := (some .int)) (by decide) rfl ?_
  intro p e s m args below meth c s₁ B9 hml hv
  obtain ⟨rfl, ⟨hT, hH, hG⟩, hK, hN⟩ := hv
  have hx := B9.exec
  have hb := B9.bytes
  have hr := B9.returns
  have hts := atoms_spec (ws := wsX8_ofOwner) B9.pre
  have hown : s.vm.findClass RX8 = some m.cls := findClass_of_methodNamed B9.named
  have hlocks := B9.notSynchronized
  have hS : va_S (zA2 ad ad2) s.heap s.heap [] := va_S.rf
  have hOk := hOk0
  have hFx : z_Fx M M := z_Fx.rf
  have hT : zT dC dI ca sf (ad 0) (ad2 0) s.heap := hT
  have hH : zW dC dI ca ad M s.heap := hH
  have hG : zW dC dI ca ad2 N s.heap := hG
  have hinX3 : ∀ w ∈ u_ws RX3 TX3 15, w ∈ wsX8_ofOwner := by decide +kernel
  have hinX8 : ∀ w ∈ u_ws RX8 TX8 2, w ∈ wsX8_ofOwner := by decide +kernel
  have hl := lv_entry ([.ref sf, .int a0, .int a1]) (n := 3) (Nat.le_of_ble_eq_true rfl)
  rw [lg_entry_eq]
  generalize (lg_sl ([.ref sf, .int a0, .int a1]) ++ List.replicate (3 - (lg_sl ([.ref sf, .int a0, .int a1])).length) Slot.unset).toArray = ls at hl ⊢
  have hl : lv_has ls 3 [(0, .ref sf), (1, .int a0), (2, .int a1)] := hl
  refine lv_iload_n hx hb dX8_ofOwner_0 rfl (lv_at hl 1 rfl) ?_
  refine lv_iconst (v := 2) hx hb dX8_ofOwner_1 (by decide) ?_
  refine z_cSv (D := (dC, dI)) (cl := vwCl) (tys := zt ca) (nw := zw_nest) (As := [.int a0, .int 2]) (rest := []) ⟨hx, hb, hml, hown, hts⟩ (m_X8_needIndex l dC dI ca (fun z : Heap => z = s.heap)  a0 2 (z_ni_of h_a0 rfl (by decide))) (cwS 2 hts gX8_ofOwner_X8_needIndex rfl rfl rfl (by decide +kernel) ⟨Nat.le_of_ble_eq_true rfl, Nat.le_of_ble_eq_true rfl⟩) rfl hK hN zw_nest_ok rfl hl.1 rfl (Nat.le_of_ble_eq_true rfl) dX8_ofOwner_2 ⟨Nat.le_refl _, Nat.le_refl _⟩ hS (fun _ h => h.elim) (fun H locs hB1 oq1 hz1 hS => ?_)
  have hT : zT dC dI ca sf (ad 0) (ad2 0) H := by rw [hB1]; exact hT
  have hH : zW dC dI ca ad M H := by rw [hB1]; exact hH
  have hG : zW dC dI ca ad2 N H := by rw [hB1]; exact hG
  refine lv_iload_n hx hb dX8_ofOwner_5 rfl (lv_at hl 2 rfl) ?_
  refine lv_iconst (v := 0) hx hb dX8_ofOwner_6 (by decide) ?_
  refine lv_iconst (v := 1) hx hb dX8_ofOwner_7 (by decide) ?_
  refine z_cSv (D := (dC, dI)) (cl := vwCl) (tys := zt ca) (nw := zw_nest) (As := [.int a1, .int 0, .int 1]) (rest := []) ⟨hx, hb, hml, hown, hts⟩ (m_X8_needRange l dC dI ca (fun z : Heap => z = H)  a1 0 1 r_a1) (cwS 3 hts gX8_ofOwner_X8_needRange rfl rfl rfl (by decide +kernel) ⟨Nat.le_of_ble_eq_true rfl, Nat.le_of_ble_eq_true rfl⟩) rfl hK hN zw_nest_ok rfl hl.1 rfl (Nat.le_of_ble_eq_true rfl) dX8_ofOwner_8 ⟨Nat.le_refl _, Nat.le_refl _⟩ hS (fun _ h => h.elim) (fun H locs hB1 oq1 hz1 hS => ?_)
  have hT : zT dC dI ca sf (ad 0) (ad2 0) H := by rw [hB1]; exact hT
  have hH : zW dC dI ca ad M H := by rw [hB1]; exact hH
  have hG : zW dC dI ca ad2 N H := by rw [hB1]; exact hG
  refine lv_iload_n hx hb dX8_ofOwner_11 rfl (lv_at hl 2 rfl) ?_
  have J3 : ∀ x2 : Int32, x2 = (if ¬ a1 = 0 then (let x2 : Int32 := rX3_shareOf M a0; x2) else (let x2 : Int32 := M 8 a0.toNatClampNeg; x2)) → ∀ ls : Array Slot, lv_has ls 3 [(0, .ref sf), (1, .int a0), (2, .int a1)] → ∀ (H : Heap) (locs : List Loc), zT dC dI ca sf (ad 0) (ad2 0) H → zW dC dI ca ad M H → zW dC dI ca ad2 N H → va_S (zA2 ad ad2) s.heap H locs → W p l e (headSpec wsX8_ofOwner ({ frames := 1, cells := 0, slots := 0, locals := 23 })).room s m ([.ref sf, .int a0, .int a1] : List Value).toArray below meth c H locs 0 0 (MQ below (z_Qi (rX8_ofOwner M N a0 a1) (fun H => zT dC dI ca sf (ad 0) (ad2 0) H ∧ zW dC dI ca ad M H ∧ zW dC dI ca ad2 N H) (zA2 ad ad2)) ([.ref sf, .int a0, .int a1] : List Value).toArray s 0 0 (zA2 ad ad2)) (F0 m 35 ls [.int x2]) := by
    intro x2 ex2 ls hl H locs hT hH hG hS
    have hR : x2 = rX8_ofOwner M N a0 a1 := by subst ex2; rfl
    exact W.iret (v := x2) hx hb hr (fun t ht hW => ⟨⟨x2, (), rfl, hR, z_to (B := fun H => zT dC dI ca sf (ad 0) (ad2 0) H ∧ zW dC dI ca ad M H ∧ zW dC dI ca ad2 N H) ht ⟨hT, hH, hG⟩⟩, hS.F ht⟩) hS.2.2 dX8_ofOwner_35
  refine lv_if_ne (tgt := 27) hx hb dX8_ofOwner_12 (by decide) (fun c1 => ?_) (fun c1 => ?_)
  · refine lv_aload_n hx hb dX8_ofOwner_27 rfl (lv_at hl 0 rfl) ?_
    refine z_gS (k := 0) (v := ad 0) hx hb hts hinX8 hown hK hT (by decide) rfl (hts (.fieldLink RX8 10 "Steamfield" "land" "LSteamfield$Land;") (by decide +kernel)) (fun _ h9 => h9) dX8_ofOwner_28 ?_
    refine lv_iload_n hx hb dX8_ofOwner_31 rfl (lv_at hl 1 rfl) ?_
    refine z_cVi (D := (dC, dI)) (cl := vwCl) (tys := zt ca) (nw := zw_nest) (C := RX3) (As := [.int a0]) (rest := []) ⟨hx, hb, hml, hown, hts⟩ (m_X3_shareOf l dC dI ca ad hI M a0 hOk) (cwV 1 hts gX8_ofOwner_X3_shareOf rfl rfl rfl (by decide +kernel) ⟨Nat.le_of_ble_eq_true rfl, Nat.le_of_ble_eq_true rfl⟩) (z_recv (ci := 3) (i := 0) hK hH zk_0 (by decide) rfl) hH hK hN zw_nest_ok rfl hl.1 rfl (Nat.le_of_ble_eq_true rfl) dX8_ofOwner_32 ⟨Nat.le_refl _, Nat.le_refl _⟩ hS (fun _ h => Or.inl h) (fun H locs hB1 oq1 hz1 hS => ?_)
    have hT := zT_c hT oq1 hq.a1
    have hG := zW_c hG oq1 hq.x
    have hH := hB1
    refine lv_topi (fun x2 ex2 => ?_)
    exact J3 _ (by subst ex2; exact (if_pos c1).symm) ls (lv_sub hl [0, 1, 2] rfl) _ _ hT hH hG hS
  · refine lv_aload_n hx hb dX8_ofOwner_15 rfl (lv_at hl 0 rfl) ?_
    refine z_gS (k := 0) (v := ad 0) hx hb hts hinX8 hown hK hT (by decide) rfl (hts (.fieldLink RX8 10 "Steamfield" "land" "LSteamfield$Land;") (by decide +kernel)) (fun _ h9 => h9) dX8_ofOwner_16 ?_
    refine z_grN (D := (dC, dI)) (cl := vwCl) (C := RX3) (T := TX3) (N := 15) (ci := 3) (k := 7) hx hb hts hinX3 hown hK hH zk_0 (by decide) rfl (by decide) rfl (zr_0 (k := 7) (by decide)) (hN (.fieldLinkNest RX8 145 "Steamfield$Land" "coins" "[I" "Steamfield") (by decide +kernel)) (fun _ h9 => h9) dX8_ofOwner_19 ?_
    refine lv_iload_n hx hb dX8_ofOwner_22 rfl (lv_at hl 1 rfl) ?_
    refine z_al (t0 := 0) (D := (dC, dI)) (cl := vwCl) (tys := zt ca) hx hb hK hH zk_8 rfl (show vp_in a0 2 from (z_ix.in h_a0)) dX8_ofOwner_23 ?_
    refine lv_topi (fun x2 ex2 => ?_)
    refine lv_goto (tgt := 35) hx hb dX8_ofOwner_24 (by decide) ?_
    exact J3 _ (by subst ex2; exact (if_neg (fun hh => hh c1)).symm) ls (lv_sub hl [0, 1, 2] rfl) _ _ hT hH hG hS

def fX8_turbine (M : zM) (N : zM) (a0 : Int32) : zM :=
  let x1 : Int32 := M 6 0
  let M2 : zM := zu M 6 0 a0
  let M3 : zM := zu M2 6 1 1
  M3
def rX8_turbine (M : zM) (N : zM) (a0 : Int32) : Int32 :=
  let x1 : Int32 := M 6 0
  let M2 : zM := zu M 6 0 a0
  let M3 : zM := zu M2 6 1 1
  x1
set_option maxHeartbeats 4000000 in
set_option maxRecDepth 100000 in
theorem m_X8_turbine (l : Launch) (dC : Nat → ClassId) (dI : Nat → Nat → Nat) (ca : Nat → ClassId) (sf : Nat) (ad : Nat → Nat) (hI : z_I zd ad) (ad2 : Nat → Nat) (hI2 : z_I zd ad2) (hq : zSep sf ad ad2) (M : zM) (N : zM) (a0 : Int32) (hOk0 : z_Ok M) (r_a0 : z_rg a0 0 99) : Met l yX8_turbine wsX8_turbine ({ frames := 1, cells := 0, slots := 0, locals := 22 }) (z_Pc (dC, dI) vwCl (zt ca) zw_nest [.ref sf, .int a0] (fun H => zT dC dI ca sf (ad 0) (ad2 0) H ∧ zW dC dI ca ad M H ∧ zW dC dI ca ad2 N H)) (z_Qi (rX8_turbine M N a0) (fun H => zT dC dI ca sf (ad 0) (ad2 0) H ∧ zW dC dI ca ad (fX8_turbine M N a0) H ∧ zW dC dI ca ad2 N H) (zA2 ad ad2)) 0 0 (zA2 ad ad2) := by
  refine Met.ofW (cc := cX8_turbine) (maxL := 3) (ret := (some .int)) (by decide) rfl ?_
  intro p e s m args below meth c s₁ B9 hml hv
  obtain ⟨rfl, ⟨hT, hH, hG⟩, hK, hN⟩ := hv
  have hx := B9.exec
  have hb := B9.bytes
  have hr := B9.returns
  have hts := atoms_spec (ws := wsX8_turbine) B9.pre
  have hown : s.vm.findClass RX8 = some m.cls := findClass_of_methodNamed B9.named
  have hlocks := B9.notSynchronized
  have hS : va_S (zA2 ad ad2) s.heap s.heap [] := va_S.rf
  have hOk := hOk0
  have hFx : z_Fx M M := z_Fx.rf
  have hT : zT dC dI ca sf (ad 0) (ad2 0) s.heap := hT
  have hH : zW dC dI ca ad M s.heap := hH
  have hG : zW dC dI ca ad2 N s.heap := hG
  have hinX3 : ∀ w ∈ u_ws RX3 TX3 15, w ∈ wsX8_turbine := by decide +kernel
  have hinX4 : ∀ w ∈ u_ws RX4 TX4 6, w ∈ wsX8_turbine := by decide +kernel
  have hinX8 : ∀ w ∈ u_ws RX8 TX8 2, w ∈ wsX8_turbine := by decide +kernel
  have hl := lv_entry ([.ref sf, .int a0]) (n := 3) (Nat.le_of_ble_eq_true rfl)
  rw [lg_entry_eq]
  generalize (lg_sl ([.ref sf, .int a0]) ++ List.replicate (3 - (lg_sl ([.ref sf, .int a0])).length) Slot.unset).toArray = ls at hl ⊢
  have hl : lv_has ls 3 [(0, .ref sf), (1, .int a0)] := hl
  refine lv_iload_n hx hb dX8_turbine_0 rfl (lv_at hl 1 rfl) ?_
  refine lv_iconst (v := 0) hx hb dX8_turbine_1 (by decide) ?_
  refine lv_bipush (v := 99) hx hb dX8_turbine_2 (by decide) ?_
  refine z_cSv (D := (dC, dI)) (cl := vwCl) (tys := zt ca) (nw := zw_nest) (As := [.int a0, .int 0, .int 99]) (rest := []) ⟨hx, hb, hml, hown, hts⟩ (m_X8_needRange l dC dI ca (fun z : Heap => z = s.heap)  a0 0 99 r_a0) (cwS 3 hts gX8_turbine_X8_needRange rfl rfl rfl (by decide +kernel) ⟨Nat.le_of_ble_eq_true rfl, Nat.le_of_ble_eq_true rfl⟩) rfl hK hN zw_nest_ok rfl hl.1 rfl (Nat.le_of_ble_eq_true rfl) dX8_turbine_4 ⟨Nat.le_refl _, Nat.le_refl _⟩ hS (fun _ h => h.elim) (fun H locs hB1 oq1 hz1 hS => ?_)
  have hT : zT dC dI ca sf (ad 0) (ad2 0) H := by rw [hB1]; exact hT
  have hH : zW dC dI ca ad M H := by rw [hB1]; exact hH
  have hG : zW dC dI ca ad2 N H := by rw [hB1]; exact hG
  refine lv_aload_n hx hb dX8_turbine_7 rfl (lv_at hl 0 rfl) ?_
  refine z_gS (k := 0) (v := ad 0) hx hb hts hinX8 hown hK hT (by decide) rfl (hts (.fieldLink RX8 10 "Steamfield" "land" "LSteamfield$Land;") (by decide +kernel)) (fun _ h9 => h9) dX8_turbine_8 ?_
  refine z_grN (D := (dC, dI)) (cl := vwCl) (C := RX3) (T := TX3) (N := 15) (ci := 3) (k := 5) hx hb hts hinX3 hown hK hH zk_0 (by decide) rfl (by decide) rfl (zr_0 (k := 5) (by decide)) (hN (.fieldLinkNest RX8 154 "Steamfield$Land" "plant" "LSteamfield$Plant;" "Steamfield") (by decide +kernel)) (fun _ h9 => h9) dX8_turbine_11 ?_
  refine z_giN (D := (dC, dI)) (cl := vwCl) (C := RX4) (T := TX4) (N := 6) (ci := 4) (k := 0) hx hb hts hinX4 hown hK hH zk_6 (by decide) rfl (by decide) rfl (hN (.fieldLinkNest RX8 158 "Steamfield$Plant" "size" "I" "Steamfield") (by decide +kernel)) (fun _ h9 => h9) dX8_turbine_14 ?_
  refine lv_topi (fun x1 ex1 => ?_)
  refine lv_istore_n (lv' := [(2, .int x1), (0, .ref sf), (1, .int a0)]) hx hb dX8_turbine_17 rfl hl (by decide) rfl (fun ls hl => ?_)
  refine lv_aload_n hx hb dX8_turbine_18 rfl (lv_at hl 1 rfl) ?_
  refine z_gS (k := 0) (v := ad 0) hx hb hts hinX8 hown hK hT (by decide) rfl (hts (.fieldLink RX8 10 "Steamfield" "land" "LSteamfield$Land;") (by decide +kernel)) (fun _ h9 => h9) dX8_turbine_19 ?_
  refine z_grN (D := (dC, dI)) (cl := vwCl) (C := RX3) (T := TX3) (N := 15) (ci := 3) (k := 5) hx hb hts hinX3 hown hK hH zk_0 (by decide) rfl (by decide) rfl (zr_0 (k := 5) (by decide)) (hN (.fieldLinkNest RX8 154 "Steamfield$Land" "plant" "LSteamfield$Plant;" "Steamfield") (by decide +kernel)) (fun _ h9 => h9) dX8_turbine_22 ?_
  refine lv_iload_n hx hb dX8_turbine_25 rfl (lv_at hl 2 rfl) ?_
  refine zp_iN (D := (dC, dI)) (cl := vwCl) (C := RX4) (T := TX4) (N := 6) (ci := 4) (k := 0) (ty := .int) hx hb hts hinX4 tyX4 tyX4_ok nmX4 hown hK hH hI hS (fun _ h => Or.inl h) zk_6 (by decide) rfl (by decide) rfl (hN (.fieldLinkNest RX8 158 "Steamfield$Plant" "size" "I" "Steamfield") (by decide +kernel)) (fun _ h9 => h9) rfl (by decide +kernel) rfl rfl dX8_turbine_26 (fun H locs hH oq hS => ?_)
  have hT := zT_u hT oq (hq.2.1 _ (zk_lt zk_6 (by decide)))
  have hG := zW_u hG oq hq.x (zk_lt zk_6 (by decide))
  obtain ⟨M2, hM2⟩ : ∃ z : zM, z = zu M 6 0 a0 := ⟨_, rfl⟩
  rw [← hM2] at hH
  refine lv_aload_n hx hb dX8_turbine_29 rfl (lv_at hl 1 rfl) ?_
  refine z_gS (k := 0) (v := ad 0) hx hb hts hinX8 hown hK hT (by decide) rfl (hts (.fieldLink RX8 10 "Steamfield" "land" "LSteamfield$Land;") (by decide +kernel)) (fun _ h9 => h9) dX8_turbine_30 ?_
  refine z_grN (D := (dC, dI)) (cl := vwCl) (C := RX3) (T := TX3) (N := 15) (ci := 3) (k := 5) hx hb hts hinX3 hown hK hH zk_0 (by decide) rfl (by decide) rfl (zr_0 (k := 5) (by decide)) (hN (.fieldLinkNest RX8 154 "Steamfield$Land" "plant" "LSteamfield$Plant;" "Steamfield") (by decide +kernel)) (fun _ h9 => h9) dX8_turbine_33 ?_
  refine lv_iconst (v := 1) hx hb dX8_turbine_36 (by decide) ?_
  refine zp_iN (D := (dC, dI)) (cl := vwCl) (C := RX4) (T := TX4) (N := 6) (ci := 4) (k := 1) (ty := .boolean) hx hb hts hinX4 tyX4 tyX4_ok nmX4 hown hK hH hI hS (fun _ h => Or.inl h) zk_6 (by decide) rfl (by decide) rfl (hN (.fieldLinkNest RX8 163 "Steamfield$Plant" "isRunning" "Z" "Steamfield") (by decide +kernel)) (fun _ h9 => h9) rfl (by decide +kernel) (by decide) (by decide) dX8_turbine_37 (fun H locs hH oq hS => ?_)
  have hT := zT_u hT oq (hq.2.1 _ (zk_lt zk_6 (by decide)))
  have hG := zW_u hG oq hq.x (zk_lt zk_6 (by decide))
  obtain ⟨M3, hM3⟩ : ∃ z : zM, z = zu M2 6 1 1 := ⟨_, rfl⟩
  rw [← hM3] at hH
  refine lv_iload_n hx hb dX8_turbine_40 rfl (lv_at hl 0 rfl) ?_
  have hF0 : zW dC dI ca ad (fX8_turbine M N a0) H := by
    have e9 : M3 = (fX8_turbine M N a0) := by subst hM3; subst hM2; subst ex1; rfl
    rw [← e9]; exact hH
  have hR : x1 = rX8_turbine M N a0 := by subst hM3; subst hM2; subst ex1; rfl
  exact W.iret (v := x1) hx hb hr (fun t ht hW => ⟨⟨x1, (), rfl, hR, z_to (B := fun H => zT dC dI ca sf (ad 0) (ad2 0) H ∧ zW dC dI ca ad (fX8_turbine M N a0) H ∧ zW dC dI ca ad2 N H) ht ⟨hT, hF0, hG⟩⟩, hS.F ht⟩) hS.2.2 dX8_turbine_41

def fX8_town (M : zM) (N : zM) (a0 : Int32) : zM :=
  let x1 : Int32 := M 6 4
  let M2 : zM := zu M 6 4 a0
  M2
def rX8_town (M : zM) (N : zM) (a0 : Int32) : Int32 :=
  let x1 : Int32 := M 6 4
  let M2 : zM := zu M 6 4 a0
  x1
set_option maxHeartbeats 4000000 in
set_option maxRecDepth 100000 in
theorem m_X8_town (l : Launch) (dC : Nat → ClassId) (dI : Nat → Nat → Nat) (ca : Nat → ClassId) (sf : Nat) (ad : Nat → Nat) (hI : z_I zd ad) (ad2 : Nat → Nat) (hI2 : z_I zd ad2) (hq : zSep sf ad ad2) (M : zM) (N : zM) (a0 : Int32) (hOk0 : z_Ok M) (r_a0 : z_rg a0 0 999) : Met l yX8_town wsX8_town ({ frames := 1, cells := 0, slots := 0, locals := 22 }) (z_Pc (dC, dI) vwCl (zt ca) zw_nest [.ref sf, .int a0] (fun H => zT dC dI ca sf (ad 0) (ad2 0) H ∧ zW dC dI ca ad M H ∧ zW dC dI ca ad2 N H)) (z_Qi (rX8_town M N a0) (fun H => zT dC dI ca sf (ad 0) (ad2 0) H ∧ zW dC dI ca ad (fX8_town M N a0) H ∧ zW dC dI ca ad2 N H) (zA2 ad ad2)) 0 0 (zA2 ad ad2) := by
  refine Met.ofW (cc := cX8_town) (maxL := 3) (ret := (some .int)) (by decide) rfl ?_
  intro p e s m args below meth c s₁ B9 hml hv
  obtain ⟨rfl, ⟨hT, hH, hG⟩, hK, hN⟩ := hv
  have hx := B9.exec
  have hb := B9.bytes
  have hr := B9.returns
  have hts := atoms_spec (ws := wsX8_town) B9.pre
  have hown : s.vm.findClass RX8 = some m.cls := findClass_of_methodNamed B9.named
  have hlocks := B9.notSynchronized
  have hS : va_S (zA2 ad ad2) s.heap s.heap [] := va_S.rf
  have hOk := hOk0
  have hFx : z_Fx M M := z_Fx.rf
  have hT : zT dC dI ca sf (ad 0) (ad2 0) s.heap := hT
  have hH : zW dC dI ca ad M s.heap := hH
  have hG : zW dC dI ca ad2 N s.heap := hG
  have hinX3 : ∀ w ∈ u_ws RX3 TX3 15, w ∈ wsX8_town := by decide +kernel
  have hinX4 : ∀ w ∈ u_ws RX4 TX4 6, w ∈ wsX8_town := by decide +kernel
  have hinX8 : ∀ w ∈ u_ws RX8 TX8 2, w ∈ wsX8_town := by decide +kernel
  have hl := lv_entry ([.ref sf, .int a0]) (n := 3) (Nat.le_of_ble_eq_true rfl)
  rw [lg_entry_eq]
  generalize (lg_sl ([.ref sf, .int a0]) ++ List.replicate (3 - (lg_sl ([.ref sf, .int a0])).length) Slot.unset).toArray = ls at hl ⊢
  have hl : lv_has ls 3 [(0, .ref sf), (1, .int a0)] := hl
  refine lv_iload_n hx hb dX8_town_0 rfl (lv_at hl 1 rfl) ?_
  refine lv_iconst (v := 0) hx hb dX8_town_1 (by decide) ?_
  refine lv_sipush (v := 999) hx hb dX8_town_2 (by decide) ?_
  refine z_cSv (D := (dC, dI)) (cl := vwCl) (tys := zt ca) (nw := zw_nest) (As := [.int a0, .int 0, .int 999]) (rest := []) ⟨hx, hb, hml, hown, hts⟩ (m_X8_needRange l dC dI ca (fun z : Heap => z = s.heap)  a0 0 999 r_a0) (cwS 3 hts gX8_town_X8_needRange rfl rfl rfl (by decide +kernel) ⟨Nat.le_of_ble_eq_true rfl, Nat.le_of_ble_eq_true rfl⟩) rfl hK hN zw_nest_ok rfl hl.1 rfl (Nat.le_of_ble_eq_true rfl) dX8_town_5 ⟨Nat.le_refl _, Nat.le_refl _⟩ hS (fun _ h => h.elim) (fun H locs hB1 oq1 hz1 hS => ?_)
  have hT : zT dC dI ca sf (ad 0) (ad2 0) H := by rw [hB1]; exact hT
  have hH : zW dC dI ca ad M H := by rw [hB1]; exact hH
  have hG : zW dC dI ca ad2 N H := by rw [hB1]; exact hG
  refine lv_aload_n hx hb dX8_town_8 rfl (lv_at hl 0 rfl) ?_
  refine z_gS (k := 0) (v := ad 0) hx hb hts hinX8 hown hK hT (by decide) rfl (hts (.fieldLink RX8 10 "Steamfield" "land" "LSteamfield$Land;") (by decide +kernel)) (fun _ h9 => h9) dX8_town_9 ?_
  refine z_grN (D := (dC, dI)) (cl := vwCl) (C := RX3) (T := TX3) (N := 15) (ci := 3) (k := 5) hx hb hts hinX3 hown hK hH zk_0 (by decide) rfl (by decide) rfl (zr_0 (k := 5) (by decide)) (hN (.fieldLinkNest RX8 154 "Steamfield$Land" "plant" "LSteamfield$Plant;" "Steamfield") (by decide +kernel)) (fun _ h9 => h9) dX8_town_12 ?_
  refine z_giN (D := (dC, dI)) (cl := vwCl) (C := RX4) (T := TX4) (N := 6) (ci := 4) (k := 4) hx hb hts hinX4 hown hK hH zk_6 (by decide) rfl (by decide) rfl (hN (.fieldLinkNest RX8 166 "Steamfield$Plant" "need" "I" "Steamfield") (by decide +kernel)) (fun _ h9 => h9) dX8_town_15 ?_
  refine lv_topi (fun x1 ex1 => ?_)
  refine lv_istore_n (lv' := [(2, .int x1), (0, .ref sf), (1, .int a0)]) hx hb dX8_town_18 rfl hl (by decide) rfl (fun ls hl => ?_)
  refine lv_aload_n hx hb dX8_town_19 rfl (lv_at hl 1 rfl) ?_
  refine z_gS (k := 0) (v := ad 0) hx hb hts hinX8 hown hK hT (by decide) rfl (hts (.fieldLink RX8 10 "Steamfield" "land" "LSteamfield$Land;") (by decide +kernel)) (fun _ h9 => h9) dX8_town_20 ?_
  refine z_grN (D := (dC, dI)) (cl := vwCl) (C := RX3) (T := TX3) (N := 15) (ci := 3) (k := 5) hx hb hts hinX3 hown hK hH zk_0 (by decide) rfl (by decide) rfl (zr_0 (k := 5) (by decide)) (hN (.fieldLinkNest RX8 154 "Steamfield$Land" "plant" "LSteamfield$Plant;" "Steamfield") (by decide +kernel)) (fun _ h9 => h9) dX8_town_23 ?_
  refine lv_iload_n hx hb dX8_town_26 rfl (lv_at hl 2 rfl) ?_
  refine zp_iN (D := (dC, dI)) (cl := vwCl) (C := RX4) (T := TX4) (N := 6) (ci := 4) (k := 4) (ty := .int) hx hb hts hinX4 tyX4 tyX4_ok nmX4 hown hK hH hI hS (fun _ h => Or.inl h) zk_6 (by decide) rfl (by decide) rfl (hN (.fieldLinkNest RX8 166 "Steamfield$Plant" "need" "I" "Steamfield") (by decide +kernel)) (fun _ h9 => h9) rfl (by decide +kernel) rfl rfl dX8_town_27 (fun H locs hH oq hS => ?_)
  have hT := zT_u hT oq (hq.2.1 _ (zk_lt zk_6 (by decide)))
  have hG := zW_u hG oq hq.x (zk_lt zk_6 (by decide))
  obtain ⟨M2, hM2⟩ : ∃ z : zM, z = zu M 6 4 a0 := ⟨_, rfl⟩
  rw [← hM2] at hH
  refine lv_iload_n hx hb dX8_town_30 rfl (lv_at hl 0 rfl) ?_
  have hF0 : zW dC dI ca ad (fX8_town M N a0) H := by
    have e9 : M2 = (fX8_town M N a0) := by subst hM2; subst ex1; rfl
    rw [← e9]; exact hH
  have hR : x1 = rX8_town M N a0 := by subst hM2; subst ex1; rfl
  exact W.iret (v := x1) hx hb hr (fun t ht hW => ⟨⟨x1, (), rfl, hR, z_to (B := fun H => zT dC dI ca sf (ad 0) (ad2 0) H ∧ zW dC dI ca ad (fX8_town M N a0) H ∧ zW dC dI ca ad2 N H) ht ⟨hT, hF0, hG⟩⟩, hS.F ht⟩) hS.2.2 dX8_town_31

def fX8_run (M : zM) (N : zM) (a0 : Int32) : zM :=
  let x1 : Int32 := rX8_powerIn M a0
  let M2 : zM := fX8_powerIn M a0
  M2
def rX8_run (M : zM) (N : zM) (a0 : Int32) : Int32 :=
  let x1 : Int32 := rX8_powerIn M a0
  let M2 : zM := fX8_powerIn M a0
  x1
set_option maxHeartbeats 4000000 in
set_option maxRecDepth 100000 in
theorem m_X8_run (l : Launch) (dC : Nat → ClassId) (dI : Nat → Nat → Nat) (ca : Nat → ClassId) (sf : Nat) (ad : Nat → Nat) (hI : z_I zd ad) (ad2 : Nat → Nat) (hI2 : z_I zd ad2) (hq : zSep sf ad ad2) (M : zM) (N : zM) (a0 : Int32) (hOk0 : z_Ok M) (r_a0 : z_rg a0 1 30) : Met l yX8_run wsX8_run ({ frames := 5, cells := 0, slots := 0, locals := 120 }) (z_Pc (dC, dI) vwCl (zt ca) zw_nest [.ref sf, .int a0] (fun H => zT dC dI ca sf (ad 0) (ad2 0) H ∧ zW dC dI ca ad M H ∧ zW dC dI ca ad2 N H)) (z_Qi (rX8_run M N a0) (fun H => zT dC dI ca sf (ad 0) (ad2 0) H ∧ zW dC dI ca ad (fX8_run M N a0) H ∧ zW dC dI ca ad2 N H ∧ z_Fx M (fX8_run M N a0)) (zA2 ad ad2)) 0 0 (zA2 ad ad2) := by
  refine Met.ofW (cc := cX8_run) (maxL := 2) (ret := (some .int)) (by decide) rfl ?_
  intro p e s m args below meth c s₁ B9 hml hv
  obtain ⟨rfl, ⟨hT, hH, hG⟩, hK, hN⟩ := hv
  have hx := B9.exec
  have hb := B9.bytes
  have hr := B9.returns
  have hts := atoms_spec (ws := wsX8_run) B9.pre
  have hown : s.vm.findClass RX8 = some m.cls := findClass_of_methodNamed B9.named
  have hlocks := B9.notSynchronized
  have hS : va_S (zA2 ad ad2) s.heap s.heap [] := va_S.rf
  have hOk := hOk0
  have hFx : z_Fx M M := z_Fx.rf
  have hT : zT dC dI ca sf (ad 0) (ad2 0) s.heap := hT
  have hH : zW dC dI ca ad M s.heap := hH
  have hG : zW dC dI ca ad2 N s.heap := hG
  have hinX8 : ∀ w ∈ u_ws RX8 TX8 2, w ∈ wsX8_run := by decide +kernel
  have hl := lv_entry ([.ref sf, .int a0]) (n := 2) (Nat.le_of_ble_eq_true rfl)
  rw [lg_entry_eq]
  generalize (lg_sl ([.ref sf, .int a0]) ++ List.replicate (2 - (lg_sl ([.ref sf, .int a0])).length) Slot.unset).toArray = ls at hl ⊢
  have hl : lv_has ls 2 [(0, .ref sf), (1, .int a0)] := hl
  refine lv_iload_n hx hb dX8_run_0 rfl (lv_at hl 1 rfl) ?_
  refine lv_iconst (v := 1) hx hb dX8_run_1 (by decide) ?_
  refine lv_bipush (v := 30) hx hb dX8_run_2 (by decide) ?_
  refine z_cSv (D := (dC, dI)) (cl := vwCl) (tys := zt ca) (nw := zw_nest) (As := [.int a0, .int 1, .int 30]) (rest := []) ⟨hx, hb, hml, hown, hts⟩ (m_X8_needRange l dC dI ca (fun z : Heap => z = s.heap)  a0 1 30 r_a0) (cwS 3 hts gX8_run_X8_needRange rfl rfl rfl (by decide +kernel) ⟨Nat.le_of_ble_eq_true rfl, Nat.le_of_ble_eq_true rfl⟩) rfl hK hN zw_nest_ok rfl hl.1 rfl (Nat.le_of_ble_eq_true rfl) dX8_run_4 ⟨Nat.le_refl _, Nat.le_refl _⟩ hS (fun _ h => h.elim) (fun H locs hB1 oq1 hz1 hS => ?_)
  have hT : zT dC dI ca sf (ad 0) (ad2 0) H := by rw [hB1]; exact hT
  have hH : zW dC dI ca ad M H := by rw [hB1]; exact hH
  have hG : zW dC dI ca ad2 N H := by rw [hB1]; exact hG
  refine lv_aload_n hx hb dX8_run_7 rfl (lv_at hl 0 rfl) ?_
  refine z_gS (k := 0) (v := ad 0) hx hb hts hinX8 hown hK hT (by decide) rfl (hts (.fieldLink RX8 10 "Steamfield" "land" "LSteamfield$Land;") (by decide +kernel)) (fun _ h9 => h9) dX8_run_8 ?_
  refine lv_iload_n hx hb dX8_run_11 rfl (lv_at hl 1 rfl) ?_
  refine z_cSi (D := (dC, dI)) (cl := vwCl) (tys := zt ca) (nw := zw_nest) (As := [.ref (ad 0), .int a0]) (rest := []) ⟨hx, hb, hml, hown, hts⟩ (m_X8_powerIn l dC dI ca ad hI M a0 hOk (z_ix.mono (z_ix_rg r_a0 (by decide) (by decide)) (Nat.le_of_ble_eq_true rfl))) (cwS 2 hts gX8_run_X8_powerIn rfl rfl rfl (by decide +kernel) ⟨Nat.le_of_ble_eq_true rfl, Nat.le_of_ble_eq_true rfl⟩) hH hK hN zw_nest_ok rfl hl.1 rfl (Nat.le_of_ble_eq_true rfl) dX8_run_12 ⟨Nat.le_refl _, Nat.le_refl _⟩ hS (fun _ h => Or.inl h) (fun H locs hB1 oq1 hz1 hS => ?_)
  have hT := zT_c hT oq1 hq.a1
  have hG := zW_c hG oq1 hq.x
  obtain ⟨hH, hFc⟩ := hB1
  refine lv_topi (fun x1 ex1 => ?_)
  obtain ⟨M2, hM2⟩ : ∃ z : zM, z = fX8_powerIn M a0 := ⟨_, rfl⟩
  have hH : z_H (dC, dI) vwCl zf ca zd ad M2 H := by rw [hM2]; exact hH
  have hFx : z_Fx M M2 := hFx.tr (by rw [hM2]; exact hFc)
  have hOk : z_Ok M2 := hOk0.fx hFx
  have hF0 : zW dC dI ca ad (fX8_run M N a0) H := by
    have e9 : M2 = (fX8_run M N a0) := by subst hM2; subst ex1; rfl
    rw [← e9]; exact hH
  have hFF : z_Fx M (fX8_run M N a0) := by
    have e9 : M2 = (fX8_run M N a0) := by subst hM2; subst ex1; rfl
    rw [← e9]; exact hFx
  have hR : x1 = rX8_run M N a0 := by subst hM2; subst ex1; rfl
  exact W.iret (v := x1) hx hb hr (fun t ht hW => ⟨⟨x1, (), rfl, hR, z_to (B := fun H => zT dC dI ca sf (ad 0) (ad2 0) H ∧ zW dC dI ca ad (fX8_run M N a0) H ∧ zW dC dI ca ad2 N H ∧ z_Fx M (fX8_run M N a0)) ht ⟨hT, hF0, hG, hFF⟩⟩, hS.F ht⟩) hS.2.2 dX8_run_15

def rX8_ofFace (M : zM) (N : zM) (a0 : Int32) (a1 : Int32) : Int32 :=
  let x1 : Int32 := M 0 11
  let x3 : Int32 := if a1 = 0 then (let x3 : Int32 := M (40 + a0.toNatClampNeg) 2; x3) else (let x3 : Int32 := M (40 + a0.toNatClampNeg) 3; x3)
  x3
set_option maxHeartbeats 4000000 in
set_option maxRecDepth 100000 in
theorem m_X8_ofFace (l : Launch) (dC : Nat → ClassId) (dI : Nat → Nat → Nat) (ca : Nat → ClassId) (sf : Nat) (ad : Nat → Nat) (hI : z_I zd ad) (ad2 : Nat → Nat) (hI2 : z_I zd ad2) (hq : zSep sf ad ad2) (M : zM) (N : zM) (a0 : Int32) (a1 : Int32) (hOk0 : z_Ok M) (h_a0 : z_ix a0 (zc11 M)) : Met l yX8_ofFace wsX8_ofFace ({ frames := 1, cells := 0, slots := 0, locals := 21 }) (z_Pc (dC, dI) vwCl (zt ca) zw_nest [.ref sf, .int a0, .int a1] (fun H => zT dC dI ca sf (ad 0) (ad2 0) H ∧ zW dC dI ca ad M H ∧ zW dC dI ca ad2 N H)) (z_Qi (rX8_ofFace M N a0 a1) (fun H => zT dC dI ca sf (ad 0) (ad2 0) H ∧ zW dC dI ca ad M H ∧ zW dC dI ca ad2 N H) (zA2 ad ad2)) 0 0 (zA2 ad ad2) := by
  refine Met.ofW (cc := cX8_ofFace) (maxL := 3) (ret := (some .int)) (by decide) rfl ?_
  intro p e s m args below meth c s₁ B9 hml hv
  obtain ⟨rfl, ⟨hT, hH, hG⟩, hK, hN⟩ := hv
  have hx := B9.exec
  have hb := B9.bytes
  have hr := B9.returns
  have hts := atoms_spec (ws := wsX8_ofFace) B9.pre
  have hown : s.vm.findClass RX8 = some m.cls := findClass_of_methodNamed B9.named
  have hlocks := B9.notSynchronized
  have hS : va_S (zA2 ad ad2) s.heap s.heap [] := va_S.rf
  have hOk := hOk0
  have hFx : z_Fx M M := z_Fx.rf
  have hT : zT dC dI ca sf (ad 0) (ad2 0) s.heap := hT
  have hH : zW dC dI ca ad M s.heap := hH
  have hG : zW dC dI ca ad2 N s.heap := hG
  have hinX2 : ∀ w ∈ u_ws RX2 TX2 4, w ∈ wsX8_ofFace := by decide +kernel
  have hinX3 : ∀ w ∈ u_ws RX3 TX3 15, w ∈ wsX8_ofFace := by decide +kernel
  have hinX8 : ∀ w ∈ u_ws RX8 TX8 2, w ∈ wsX8_ofFace := by decide +kernel
  have hl := lv_entry ([.ref sf, .int a0, .int a1]) (n := 3) (Nat.le_of_ble_eq_true rfl)
  rw [lg_entry_eq]
  generalize (lg_sl ([.ref sf, .int a0, .int a1]) ++ List.replicate (3 - (lg_sl ([.ref sf, .int a0, .int a1])).length) Slot.unset).toArray = ls at hl ⊢
  have hl : lv_has ls 3 [(0, .ref sf), (1, .int a0), (2, .int a1)] := hl
  refine lv_iload_n hx hb dX8_ofFace_0 rfl (lv_at hl 1 rfl) ?_
  refine lv_aload_n hx hb dX8_ofFace_1 rfl (lv_at hl 0 rfl) ?_
  refine z_gS (k := 0) (v := ad 0) hx hb hts hinX8 hown hK hT (by decide) rfl (hts (.fieldLink RX8 10 "Steamfield" "land" "LSteamfield$Land;") (by decide +kernel)) (fun _ h9 => h9) dX8_ofFace_2 ?_
  refine z_giN (D := (dC, dI)) (cl := vwCl) (C := RX3) (T := TX3) (N := 15) (ci := 3) (k := 11) hx hb hts hinX3 hown hK hH zk_0 (by decide) rfl (by decide) rfl (hN (.fieldLinkNest RX8 81 "Steamfield$Land" "faceCount" "I" "Steamfield") (by decide +kernel)) (fun _ h9 => h9) dX8_ofFace_5 ?_
  refine lv_topi (fun x1 ex1 => ?_)
  have hx1 : x1 = nI (zc11 M) := by rw [ex1, hFx.c11]; exact z_Ok.c11 hOk0
  refine z_cSv (D := (dC, dI)) (cl := vwCl) (tys := zt ca) (nw := zw_nest) (As := [.int a0, .int x1]) (rest := []) ⟨hx, hb, hml, hown, hts⟩ (m_X8_needIndex l dC dI ca (fun z : Heap => z = s.heap)  a0 x1 (z_ni_of h_a0 hx1 (Nat.lt_of_le_of_lt (z_Ok.n11 hOk0) (by decide)))) (cwS 2 hts gX8_ofFace_X8_needIndex rfl rfl rfl (by decide +kernel) ⟨Nat.le_of_ble_eq_true rfl, Nat.le_of_ble_eq_true rfl⟩) rfl hK hN zw_nest_ok rfl hl.1 rfl (Nat.le_of_ble_eq_true rfl) dX8_ofFace_8 ⟨Nat.le_refl _, Nat.le_refl _⟩ hS (fun _ h => h.elim) (fun H locs hB1 oq1 hz1 hS => ?_)
  have hT : zT dC dI ca sf (ad 0) (ad2 0) H := by rw [hB1]; exact hT
  have hH : zW dC dI ca ad M H := by rw [hB1]; exact hH
  have hG : zW dC dI ca ad2 N H := by rw [hB1]; exact hG
  refine lv_iload_n hx hb dX8_ofFace_11 rfl (lv_at hl 2 rfl) ?_
  have J4 : ∀ x3 : Int32, x3 = (if a1 = 0 then (let x3 : Int32 := M (40 + a0.toNatClampNeg) 2; x3) else (let x3 : Int32 := M (40 + a0.toNatClampNeg) 3; x3)) → ∀ ls : Array Slot, lv_has ls 3 [(0, .ref sf), (1, .int a0), (2, .int a1)] → W p l e (headSpec wsX8_ofFace ({ frames := 1, cells := 0, slots := 0, locals := 21 })).room s m ([.ref sf, .int a0, .int a1] : List Value).toArray below meth c H locs 0 0 (MQ below (z_Qi (rX8_ofFace M N a0 a1) (fun H => zT dC dI ca sf (ad 0) (ad2 0) H ∧ zW dC dI ca ad M H ∧ zW dC dI ca ad2 N H) (zA2 ad ad2)) ([.ref sf, .int a0, .int a1] : List Value).toArray s 0 0 (zA2 ad ad2)) (F0 m 42 ls [.int x3]) := by
    intro x3 ex3 ls hl
    have hR : x3 = rX8_ofFace M N a0 a1 := by subst ex3; subst ex1; rfl
    exact W.iret (v := x3) hx hb hr (fun t ht hW => ⟨⟨x3, (), rfl, hR, z_to (B := fun H => zT dC dI ca sf (ad 0) (ad2 0) H ∧ zW dC dI ca ad M H ∧ zW dC dI ca ad2 N H) ht ⟨hT, hH, hG⟩⟩, hS.F ht⟩) hS.2.2 dX8_ofFace_42
  refine lv_if_eq (tgt := 30) hx hb dX8_ofFace_12 (by decide) (fun c2 => ?_) (fun c2 => ?_)
  · refine lv_aload_n hx hb dX8_ofFace_30 rfl (lv_at hl 0 rfl) ?_
    refine z_gS (k := 0) (v := ad 0) hx hb hts hinX8 hown hK hT (by decide) rfl (hts (.fieldLink RX8 10 "Steamfield" "land" "LSteamfield$Land;") (by decide +kernel)) (fun _ h9 => h9) dX8_ofFace_31 ?_
    refine z_grN (D := (dC, dI)) (cl := vwCl) (C := RX3) (T := TX3) (N := 15) (ci := 3) (k := 1) hx hb hts hinX3 hown hK hH zk_0 (by decide) rfl (by decide) rfl (zr_0 (k := 1) (by decide)) (hN (.fieldLinkNest RX8 84 "Steamfield$Land" "faces" "[LSteamfield$Face;" "Steamfield") (by decide +kernel)) (fun _ h9 => h9) dX8_ofFace_34 ?_
    refine lv_iload_n hx hb dX8_ofFace_37 rfl (lv_at hl 1 rfl) ?_
    refine z_aq (t0 := 2) (D := (dC, dI)) (cl := vwCl) (tys := zt ca) hx hb hK hH zk_2 (by decide) (by decide) rfl (show vp_in a0 12 from (z_ix.in (z_ix.mono h_a0 (z_Ok.n11 hOk0)))) (show zr 2 (a0 : Int32).toNatClampNeg = some (40 + a0.toNatClampNeg) from zr_2 (z_ix.lt (z_ix.mono h_a0 (z_Ok.n11 hOk0)))) dX8_ofFace_38 ?_
    refine z_giN (D := (dC, dI)) (cl := vwCl) (C := RX2) (T := TX2) (N := 4) (ci := 2) (k := 2) hx hb hts hinX2 hown hK hH (zk_f (z_ix.lt (z_ix.mono h_a0 (z_Ok.n11 hOk0)))) (by decide) rfl (by decide) rfl (hN (.fieldLinkNest RX8 96 "Steamfield$Face" "open" "I" "Steamfield") (by decide +kernel)) (fun _ h9 => h9) dX8_ofFace_39 ?_
    refine lv_topi (fun x3 ex3 => ?_)
    exact J4 _ (by subst ex3; exact (if_pos c2).symm) ls (lv_sub hl [0, 1, 2] rfl)
  · refine lv_aload_n hx hb dX8_ofFace_15 rfl (lv_at hl 0 rfl) ?_
    refine z_gS (k := 0) (v := ad 0) hx hb hts hinX8 hown hK hT (by decide) rfl (hts (.fieldLink RX8 10 "Steamfield" "land" "LSteamfield$Land;") (by decide +kernel)) (fun _ h9 => h9) dX8_ofFace_16 ?_
    refine z_grN (D := (dC, dI)) (cl := vwCl) (C := RX3) (T := TX3) (N := 15) (ci := 3) (k := 1) hx hb hts hinX3 hown hK hH zk_0 (by decide) rfl (by decide) rfl (zr_0 (k := 1) (by decide)) (hN (.fieldLinkNest RX8 84 "Steamfield$Land" "faces" "[LSteamfield$Face;" "Steamfield") (by decide +kernel)) (fun _ h9 => h9) dX8_ofFace_19 ?_
    refine lv_iload_n hx hb dX8_ofFace_22 rfl (lv_at hl 1 rfl) ?_
    refine z_aq (t0 := 2) (D := (dC, dI)) (cl := vwCl) (tys := zt ca) hx hb hK hH zk_2 (by decide) (by decide) rfl (show vp_in a0 12 from (z_ix.in (z_ix.mono h_a0 (z_Ok.n11 hOk0)))) (show zr 2 (a0 : Int32).toNatClampNeg = some (40 + a0.toNatClampNeg) from zr_2 (z_ix.lt (z_ix.mono h_a0 (z_Ok.n11 hOk0)))) dX8_ofFace_23 ?_
    refine z_giN (D := (dC, dI)) (cl := vwCl) (C := RX2) (T := TX2) (N := 4) (ci := 2) (k := 3) hx hb hts hinX2 hown hK hH (zk_f (z_ix.lt (z_ix.mono h_a0 (z_Ok.n11 hOk0)))) (by decide) rfl (by decide) rfl (hN (.fieldLinkNest RX8 202 "Steamfield$Face" "flow" "I" "Steamfield") (by decide +kernel)) (fun _ h9 => h9) dX8_ofFace_24 ?_
    refine lv_topi (fun x3 ex3 => ?_)
    refine lv_goto (tgt := 42) hx hb dX8_ofFace_27 (by decide) ?_
    exact J4 _ (by subst ex3; exact (if_neg c2).symm) ls (lv_sub hl [0, 1, 2] rfl)

