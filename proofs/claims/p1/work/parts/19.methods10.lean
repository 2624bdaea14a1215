def gX8_wouldGive (M : zM) (N : zM) (a0 : Int32) : zM :=
  let M1 : zM := fX3_copyFrom N M 
  let x2 : Int32 := rX8_powerIn M1 a0
  let M3 : zM := fX8_powerIn M1 a0
  M3
def rX8_wouldGive (M : zM) (N : zM) (a0 : Int32) : Int32 :=
  let M1 : zM := fX3_copyFrom N M 
  let x2 : Int32 := rX8_powerIn M1 a0
  let M3 : zM := fX8_powerIn M1 a0
  x2
set_option maxHeartbeats 4000000 in
set_option maxRecDepth 100000 in
theorem m_X8_wouldGive (l : Launch) (dC : Nat → ClassId) (dI : Nat → Nat → Nat) (ca : Nat → ClassId) (sf : Nat) (ad : Nat → Nat) (hI : z_I zd ad) (ad2 : Nat → Nat) (hI2 : z_I zd ad2) (hq : zSep sf ad ad2) (M : zM) (N : zM) (a0 : Int32) (hOk0 : z_Ok M) (r_a0 : z_rg a0 1 30) (h_run : M 6 1 = 0 ∨ M 6 1 = 1) : Met l yX8_wouldGive wsX8_wouldGive ({ frames := 5, cells := 0, slots := 0, locals := 120 }) (z_Pc (dC, dI) vwCl (zt ca) zw_nest [.ref sf, .int a0] (fun H => zT dC dI ca sf (ad 0) (ad2 0) H ∧ zW dC dI ca ad M H ∧ zW dC dI ca ad2 N H)) (z_Qi (rX8_wouldGive M N a0) (fun H => zT dC dI ca sf (ad 0) (ad2 0) H ∧ zW dC dI ca ad M H ∧ zW dC dI ca ad2 (gX8_wouldGive M N a0) H) (zA2 ad ad2)) 0 0 (zA2 ad ad2) := by
  refine Met.ofW (cc := cX8_wouldGive) (maxL := 2) (ret := (some .int)) (by decide) rfl ?_
  intro p e s m args below meth c s₁ B9 hml hv
  obtain ⟨rfl, ⟨hT, hH, hG⟩, hK, hN⟩ := hv
  have hx := B9.exec
  have hb := B9.bytes
  have hr := B9.returns
  have hts := atoms_spec (ws := wsX8_wouldGive) B9.pre
  have hown : s.vm.findClass RX8 = some m.cls := findClass_of_methodNamed B9.named
  have hlocks := B9.notSynchronized
  have hS : va_S (zA2 ad ad2) s.heap s.heap [] := va_S.rf
  have hOk := hOk0
  have hFx : z_Fx M M := z_Fx.rf
  have hT : zT dC dI ca sf (ad 0) (ad2 0) s.heap := hT
  have hH : zW dC dI ca ad M s.heap := hH
  have hG : zW dC dI ca ad2 N s.heap := hG
  have hinX8 : ∀ w ∈ u_ws RX8 TX8 2, w ∈ wsX8_wouldGive := by decide +kernel
  have hl := lv_entry ([.ref sf, .int a0]) (n := 2) (Nat.le_of_ble_eq_true rfl)
  rw [lg_entry_eq]
  generalize (lg_sl ([.ref sf, .int a0]) ++ List.replicate (2 - (lg_sl ([.ref sf, .int a0])).length) Slot.unset).toArray = ls at hl ⊢
  have hl : lv_has ls 2 [(0, .ref sf), (1, .int a0)] := hl
  refine lv_iload_n hx hb dX8_wouldGive_0 rfl (lv_at hl 1 rfl) ?_
  refine lv_iconst (v := 1) hx hb dX8_wouldGive_1 (by decide) ?_
  refine lv_bipush (v := 30) hx hb dX8_wouldGive_2 (by decide) ?_
  refine z_cSv (D := (dC, dI)) (cl := vwCl) (tys := zt ca) (nw := zw_nest) (As := [.int a0, .int 1, .int 30]) (rest := []) ⟨hx, hb, hml, hown, hts⟩ (m_X8_needRange l dC dI ca (fun z : Heap => z = s.heap)  a0 1 30 r_a0) (cwS 3 hts gX8_wouldGive_X8_needRange rfl rfl rfl (by decide +kernel) ⟨Nat.le_of_ble_eq_true rfl, Nat.le_of_ble_eq_true rfl⟩) rfl hK hN zw_nest_ok rfl hl.1 rfl (Nat.le_of_ble_eq_true rfl) dX8_wouldGive_4 ⟨Nat.le_refl _, Nat.le_refl _⟩ hS (fun _ h => h.elim) (fun H locs hB1 oq1 hz1 hS => ?_)
  have hT : zT dC dI ca sf (ad 0) (ad2 0) H := by rw [hB1]; exact hT
  have hH : zW dC dI ca ad M H := by rw [hB1]; exact hH
  have hG : zW dC dI ca ad2 N H := by rw [hB1]; exact hG
  refine lv_aload_n hx hb dX8_wouldGive_7 rfl (lv_at hl 0 rfl) ?_
  refine z_gS (k := 1) (v := ad2 0) hx hb hts hinX8 hown hK hT (by decide) rfl (hts (.fieldLink RX8 16 "Steamfield" "trial" "LSteamfield$Land;") (by decide +kernel)) (fun _ h9 => h9) dX8_wouldGive_8 ?_
  refine lv_aload_n hx hb dX8_wouldGive_11 rfl (lv_at hl 0 rfl) ?_
  refine z_gS (k := 0) (v := ad 0) hx hb hts hinX8 hown hK hT (by decide) rfl (hts (.fieldLink RX8 10 "Steamfield" "land" "LSteamfield$Land;") (by decide +kernel)) (fun _ h9 => h9) dX8_wouldGive_12 ?_
  refine z_cVv (D := (dC, dI)) (cl := vwCl) (tys := zt ca) (nw := zw_nest) (C := RX3) (As := [.ref (ad 0)]) (rest := []) ⟨hx, hb, hml, hown, hts⟩ (m_X3_copyFrom l dC dI ca ad2 hI2 ad hI hq.xs N M hOk h_run) (cwV 1 hts gX8_wouldGive_X3_copyFrom rfl rfl rfl (by decide +kernel) ⟨Nat.le_of_ble_eq_true rfl, Nat.le_of_ble_eq_true rfl⟩) (z_recv (ci := 3) (i := 0) hK hG zk_0 (by decide) rfl) ⟨hG, hH⟩ hK hN zw_nest_ok rfl hl.1 rfl (Nat.le_of_ble_eq_true rfl) dX8_wouldGive_15 ⟨Nat.le_refl _, Nat.le_refl _⟩ hS (fun _ h => Or.inr h) (fun H locs hB1 oq1 hz1 hS => ?_)
  have hT := zT_c hT oq1 hq.a2
  obtain ⟨hG, hH⟩ := hB1
  obtain ⟨M1, hM1⟩ : ∃ z : zM, z = fX3_copyFrom N M  := ⟨_, rfl⟩
  have hG : z_H (dC, dI) vwCl zf ca zd ad2 M1 H := by rw [hM1]; exact hG
  have hOk2 : z_Ok M1 := by rw [hM1]; exact ok_X3_copyFrom _ _ hOk
  refine lv_aload_n hx hb dX8_wouldGive_18 rfl (lv_at hl 0 rfl) ?_
  refine z_gS (k := 1) (v := ad2 0) hx hb hts hinX8 hown hK hT (by decide) rfl (hts (.fieldLink RX8 16 "Steamfield" "trial" "LSteamfield$Land;") (by decide +kernel)) (fun _ h9 => h9) dX8_wouldGive_19 ?_
  refine lv_iload_n hx hb dX8_wouldGive_22 rfl (lv_at hl 1 rfl) ?_
  refine z_cSi (D := (dC, dI)) (cl := vwCl) (tys := zt ca) (nw := zw_nest) (As := [.ref (ad2 0), .int a0]) (rest := []) ⟨hx, hb, hml, hown, hts⟩ (m_X8_powerIn l dC dI ca ad2 hI2 M1 a0 hOk2 (z_ix.mono (z_ix_rg r_a0 (by decide) (by decide)) (Nat.le_of_ble_eq_true rfl))) (cwS 2 hts gX8_wouldGive_X8_powerIn rfl rfl rfl (by decide +kernel) ⟨Nat.le_of_ble_eq_true rfl, Nat.le_of_ble_eq_true rfl⟩) hG hK hN zw_nest_ok rfl hl.1 rfl (Nat.le_of_ble_eq_true rfl) dX8_wouldGive_23 ⟨Nat.le_refl _, Nat.le_refl _⟩ hS (fun _ h => Or.inr h) (fun H locs hB1 oq1 hz1 hS => ?_)
  have hT := zT_c hT oq1 hq.a2
  have hH := zW_c hH oq1 hq.xs
  obtain ⟨hG, hFc⟩ := hB1
  refine lv_topi (fun x2 ex2 => ?_)
  obtain ⟨M3, hM3⟩ : ∃ z : zM, z = fX8_powerIn M1 a0 := ⟨_, rfl⟩
  have hG : z_H (dC, dI) vwCl zf ca zd ad2 M3 H := by rw [hM3]; exact hG
  have hOk2 : z_Ok M3 := hOk2.fx (by rw [hM3]; exact hFc)
  have hF1 : zW dC dI ca ad2 (gX8_wouldGive M N a0) H := by
    have e9 : M3 = (gX8_wouldGive M N a0) := by subst hM3; subst ex2; subst hM1; rfl
    rw [← e9]; exact hG
  have hR : x2 = rX8_wouldGive M N a0 := by subst hM3; subst ex2; subst hM1; rfl
  exact W.iret (v := x2) hx hb hr (fun t ht hW => ⟨⟨x2, (), rfl, hR, z_to (B := fun H => zT dC dI ca sf (ad 0) (ad2 0) H ∧ zW dC dI ca ad M H ∧ zW dC dI ca ad2 (gX8_wouldGive M N a0) H) ht ⟨hT, hH, hF1⟩⟩, hS.F ht⟩) hS.2.2 dX8_wouldGive_26

def gX8_causedBy (M : zM) (N : zM) (a0 : Int32) (a1 : Int32) (a2 : Int32) : zM :=
  let x1 : Int32 := M 0 13
  let x2 : Int32 := M 0 12
  let M3 : zM := fX3_copyFrom N M 
  let x4 : Int32 := rX8_powerIn M3 a2
  let M5 : zM := fX8_powerIn M3 a2
  let x6 : Int32 := M5 (70 + a0.toNatClampNeg) 5
  let M7 : zM := fX3_copyFrom M5 M 
  let N8 : zM := zu M7 (60 + a1.toNatClampNeg) 2 0
  let x9 : Int32 := rX8_powerIn N8 a2
  let M10 : zM := fX8_powerIn N8 a2
  let x11 : Int32 := M10 (70 + a0.toNatClampNeg) 5
  let x12 : Int32 := x11 - x6
  M10
def rX8_causedBy (M : zM) (N : zM) (a0 : Int32) (a1 : Int32) (a2 : Int32) : Int32 :=
  let x1 : Int32 := M 0 13
  let x2 : Int32 := M 0 12
  let M3 : zM := fX3_copyFrom N M 
  let x4 : Int32 := rX8_powerIn M3 a2
  let M5 : zM := fX8_powerIn M3 a2
  let x6 : Int32 := M5 (70 + a0.toNatClampNeg) 5
  let M7 : zM := fX3_copyFrom M5 M 
  let N8 : zM := zu M7 (60 + a1.toNatClampNeg) 2 0
  let x9 : Int32 := rX8_powerIn N8 a2
  let M10 : zM := fX8_powerIn N8 a2
  let x11 : Int32 := M10 (70 + a0.toNatClampNeg) 5
  let x12 : Int32 := x11 - x6
  x12
set_option maxHeartbeats 4000000 in
set_option maxRecDepth 100000 in
theorem m_X8_causedBy (l : Launch) (dC : Nat → ClassId) (dI : Nat → Nat → Nat) (ca : Nat → ClassId) (sf : Nat) (ad : Nat → Nat) (hI : z_I zd ad) (ad2 : Nat → Nat) (hI2 : z_I zd ad2) (hq : zSep sf ad ad2) (M : zM) (N : zM) (a0 : Int32) (a1 : Int32) (a2 : Int32) (hOk0 : z_Ok M) (h_a0 : z_ix a0 (zc13 M)) (h_a1 : z_ix a1 (zc12 M)) (r_a2 : z_rg a2 1 30) (h_run : M 6 1 = 0 ∨ M 6 1 = 1) : Met l yX8_causedBy wsX8_causedBy ({ frames := 5, cells := 0, slots := 0, locals := 120 }) (z_Pc (dC, dI) vwCl (zt ca) zw_nest [.ref sf, .int a0, .int a1, .int a2] (fun H => zT dC dI ca sf (ad 0) (ad2 0) H ∧ zW dC dI ca ad M H ∧ zW dC dI ca ad2 N H)) (z_Qi (rX8_causedBy M N a0 a1 a2) (fun H => zT dC dI ca sf (ad 0) (ad2 0) H ∧ zW dC dI ca ad M H ∧ zW dC dI ca ad2 (gX8_causedBy M N a0 a1 a2) H) (zA2 ad ad2)) 0 0 (zA2 ad ad2) := by
  refine Met.ofW (cc := cX8_causedBy) (maxL := 5) (ret := (some .int)) (by decide) rfl ?_
  intro p e s m args below meth c s₁ B9 hml hv
  obtain ⟨rfl, ⟨hT, hH, hG⟩, hK, hN⟩ := hv
  have hx := B9.exec
  have hb := B9.bytes
  have hr := B9.returns
  have hts := atoms_spec (ws := wsX8_causedBy) B9.pre
  have hown : s.vm.findClass RX8 = some m.cls := findClass_of_methodNamed B9.named
  have hlocks := B9.notSynchronized
  have hS : va_S (zA2 ad ad2) s.heap s.heap [] := va_S.rf
  have hOk := hOk0
  have hFx : z_Fx M M := z_Fx.rf
  have hT : zT dC dI ca sf (ad 0) (ad2 0) s.heap := hT
  have hH : zW dC dI ca ad M s.heap := hH
  have hG : zW dC dI ca ad2 N s.heap := hG
  have hinX3 : ∀ w ∈ u_ws RX3 TX3 15, w ∈ wsX8_causedBy := by decide +kernel
  have hinX5 : ∀ w ∈ u_ws RX5 TX5 7, w ∈ wsX8_causedBy := by decide +kernel
  have hinX7 : ∀ w ∈ u_ws RX7 TX7 9, w ∈ wsX8_causedBy := by decide +kernel
  have hinX8 : ∀ w ∈ u_ws RX8 TX8 2, w ∈ wsX8_causedBy := by decide +kernel
  have hl := lv_entry ([.ref sf, .int a0, .int a1, .int a2]) (n := 5) (Nat.le_of_ble_eq_true rfl)
  rw [lg_entry_eq]
  generalize (lg_sl ([.ref sf, .int a0, .int a1, .int a2]) ++ List.replicate (5 - (lg_sl ([.ref sf, .int a0, .int a1, .int a2])).length) Slot.unset).toArray = ls at hl ⊢
  have hl : lv_has ls 5 [(0, .ref sf), (1, .int a0), (2, .int a1), (3, .int a2)] := hl
  refine lv_iload_n hx hb dX8_causedBy_0 rfl (lv_at hl 1 rfl) ?_
  refine lv_aload_n hx hb dX8_causedBy_1 rfl (lv_at hl 0 rfl) ?_
  refine z_gS (k := 0) (v := ad 0) hx hb hts hinX8 hown hK hT (by decide) rfl (hts (.fieldLink RX8 10 "Steamfield" "land" "LSteamfield$Land;") (by decide +kernel)) (fun _ h9 => h9) dX8_causedBy_2 ?_
  refine z_giN (D := (dC, dI)) (cl := vwCl) (C := RX3) (T := TX3) (N := 15) (ci := 3) (k := 13) hx hb hts hinX3 hown hK hH zk_0 (by decide) rfl (by decide) rfl (hN (.fieldLinkNest RX8 115 "Steamfield$Land" "springCount" "I" "Steamfield") (by decide +kernel)) (fun _ h9 => h9) dX8_causedBy_5 ?_
  refine lv_topi (fun x1 ex1 => ?_)
  have hx1 : x1 = nI (zc13 M) := by rw [ex1, hFx.c13]; exact z_Ok.c13 hOk0
  refine z_cSv (D := (dC, dI)) (cl := vwCl) (tys := zt ca) (nw := zw_nest) (As := [.int a0, .int x1]) (rest := []) ⟨hx, hb, hml, hown, hts⟩ (m_X8_needIndex l dC dI ca (fun z : Heap => z = s.heap)  a0 x1 (z_ni_of h_a0 hx1 (Nat.lt_of_le_of_lt (z_Ok.n13 hOk0) (by decide)))) (cwS 2 hts gX8_causedBy_X8_needIndex rfl rfl rfl (by decide +kernel) ⟨Nat.le_of_ble_eq_true rfl, Nat.le_of_ble_eq_true rfl⟩) rfl hK hN zw_nest_ok rfl hl.1 rfl (Nat.le_of_ble_eq_true rfl) dX8_causedBy_8 ⟨Nat.le_refl _, Nat.le_refl _⟩ hS (fun _ h => h.elim) (fun H locs hB1 oq1 hz1 hS => ?_)
  have hT : zT dC dI ca sf (ad 0) (ad2 0) H := by rw [hB1]; exact hT
  have hH : zW dC dI ca ad M H := by rw [hB1]; exact hH
  have hG : zW dC dI ca ad2 N H := by rw [hB1]; exact hG
  refine lv_iload_n hx hb dX8_causedBy_11 rfl (lv_at hl 2 rfl) ?_
  refine lv_aload_n hx hb dX8_causedBy_12 rfl (lv_at hl 0 rfl) ?_
  refine z_gS (k := 0) (v := ad 0) hx hb hts hinX8 hown hK hT (by decide) rfl (hts (.fieldLink RX8 10 "Steamfield" "land" "LSteamfield$Land;") (by decide +kernel)) (fun _ h9 => h9) dX8_causedBy_13 ?_
  refine z_giN (D := (dC, dI)) (cl := vwCl) (C := RX3) (T := TX3) (N := 15) (ci := 3) (k := 12) hx hb hts hinX3 hown hK hH zk_0 (by decide) rfl (by decide) rfl (hN (.fieldLinkNest RX8 99 "Steamfield$Land" "wellCount" "I" "Steamfield") (by decide +kernel)) (fun _ h9 => h9) dX8_causedBy_16 ?_
  refine lv_topi (fun x2 ex2 => ?_)
  have hx2 : x2 = nI (zc12 M) := by rw [ex2, hFx.c12]; exact z_Ok.c12 hOk0
  refine z_cSv (D := (dC, dI)) (cl := vwCl) (tys := zt ca) (nw := zw_nest) (As := [.int a1, .int x2]) (rest := []) ⟨hx, hb, hml, hown, hts⟩ (m_X8_needIndex l dC dI ca (fun z : Heap => z = H)  a1 x2 (z_ni_of h_a1 hx2 (Nat.lt_of_le_of_lt (z_Ok.n12 hOk0) (by decide)))) (cwS 2 hts gX8_causedBy_X8_needIndex rfl rfl rfl (by decide +kernel) ⟨Nat.le_of_ble_eq_true rfl, Nat.le_of_ble_eq_true rfl⟩) rfl hK hN zw_nest_ok rfl hl.1 rfl (Nat.le_of_ble_eq_true rfl) dX8_causedBy_19 ⟨Nat.le_refl _, Nat.le_refl _⟩ hS (fun _ h => h.elim) (fun H locs hB1 oq1 hz1 hS => ?_)
  have hT : zT dC dI ca sf (ad 0) (ad2 0) H := by rw [hB1]; exact hT
  have hH : zW dC dI ca ad M H := by rw [hB1]; exact hH
  have hG : zW dC dI ca ad2 N H := by rw [hB1]; exact hG
  refine lv_iload_n hx hb dX8_causedBy_22 rfl (lv_at hl 3 rfl) ?_
  refine lv_iconst (v := 1) hx hb dX8_causedBy_23 (by decide) ?_
  refine lv_bipush (v := 30) hx hb dX8_causedBy_24 (by decide) ?_
  refine z_cSv (D := (dC, dI)) (cl := vwCl) (tys := zt ca) (nw := zw_nest) (As := [.int a2, .int 1, .int 30]) (rest := []) ⟨hx, hb, hml, hown, hts⟩ (m_X8_needRange l dC dI ca (fun z : Heap => z = H)  a2 1 30 r_a2) (cwS 3 hts gX8_causedBy_X8_needRange rfl rfl rfl (by decide +kernel) ⟨Nat.le_of_ble_eq_true rfl, Nat.le_of_ble_eq_true rfl⟩) rfl hK hN zw_nest_ok rfl hl.1 rfl (Nat.le_of_ble_eq_true rfl) dX8_causedBy_26 ⟨Nat.le_refl _, Nat.le_refl _⟩ hS (fun _ h => h.elim) (fun H locs hB1 oq1 hz1 hS => ?_)
  have hT : zT dC dI ca sf (ad 0) (ad2 0) H := by rw [hB1]; exact hT
  have hH : zW dC dI ca ad M H := by rw [hB1]; exact hH
  have hG : zW dC dI ca ad2 N H := by rw [hB1]; exact hG
  refine lv_aload_n hx hb dX8_causedBy_29 rfl (lv_at hl 0 rfl) ?_
  refine z_gS (k := 1) (v := ad2 0) hx hb hts hinX8 hown hK hT (by decide) rfl (hts (.fieldLink RX8 16 "Steamfield" "trial" "LSteamfield$Land;") (by decide +kernel)) (fun _ h9 => h9) dX8_causedBy_30 ?_
  refine lv_aload_n hx hb dX8_causedBy_33 rfl (lv_at hl 0 rfl) ?_
  refine z_gS (k := 0) (v := ad 0) hx hb hts hinX8 hown hK hT (by decide) rfl (hts (.fieldLink RX8 10 "Steamfield" "land" "LSteamfield$Land;") (by decide +kernel)) (fun _ h9 => h9) dX8_causedBy_34 ?_
  refine z_cVv (D := (dC, dI)) (cl := vwCl) (tys := zt ca) (nw := zw_nest) (C := RX3) (As := [.ref (ad 0)]) (rest := []) ⟨hx, hb, hml, hown, hts⟩ (m_X3_copyFrom l dC dI ca ad2 hI2 ad hI hq.xs N M hOk h_run) (cwV 1 hts gX8_causedBy_X3_copyFrom rfl rfl rfl (by decide +kernel) ⟨Nat.le_of_ble_eq_true rfl, Nat.le_of_ble_eq_true rfl⟩) (z_recv (ci := 3) (i := 0) hK hG zk_0 (by decide) rfl) ⟨hG, hH⟩ hK hN zw_nest_ok rfl hl.1 rfl (Nat.le_of_ble_eq_true rfl) dX8_causedBy_37 ⟨Nat.le_refl _, Nat.le_refl _⟩ hS (fun _ h => Or.inr h) (fun H locs hB1 oq1 hz1 hS => ?_)
  have hT := zT_c hT oq1 hq.a2
  obtain ⟨hG, hH⟩ := hB1
  obtain ⟨M3, hM3⟩ : ∃ z : zM, z = fX3_copyFrom N M  := ⟨_, rfl⟩
  have hG : z_H (dC, dI) vwCl zf ca zd ad2 M3 H := by rw [hM3]; exact hG
  have hOk2 : z_Ok M3 := by rw [hM3]; exact ok_X3_copyFrom _ _ hOk
  refine lv_aload_n hx hb dX8_causedBy_40 rfl (lv_at hl 0 rfl) ?_
  refine z_gS (k := 1) (v := ad2 0) hx hb hts hinX8 hown hK hT (by decide) rfl (hts (.fieldLink RX8 16 "Steamfield" "trial" "LSteamfield$Land;") (by decide +kernel)) (fun _ h9 => h9) dX8_causedBy_41 ?_
  refine lv_iload_n hx hb dX8_causedBy_44 rfl (lv_at hl 3 rfl) ?_
  refine z_cSi (D := (dC, dI)) (cl := vwCl) (tys := zt ca) (nw := zw_nest) (As := [.ref (ad2 0), .int a2]) (rest := []) ⟨hx, hb, hml, hown, hts⟩ (m_X8_powerIn l dC dI ca ad2 hI2 M3 a2 hOk2 (z_ix.mono (z_ix_rg r_a2 (by decide) (by decide)) (Nat.le_of_ble_eq_true rfl))) (cwS 2 hts gX8_causedBy_X8_powerIn rfl rfl rfl (by decide +kernel) ⟨Nat.le_of_ble_eq_true rfl, Nat.le_of_ble_eq_true rfl⟩) hG hK hN zw_nest_ok rfl hl.1 rfl (Nat.le_of_ble_eq_true rfl) dX8_causedBy_45 ⟨Nat.le_refl _, Nat.le_refl _⟩ hS (fun _ h => Or.inr h) (fun H locs hB1 oq1 hz1 hS => ?_)
  have hT := zT_c hT oq1 hq.a2
  have hH := zW_c hH oq1 hq.xs
  obtain ⟨hG, hFc⟩ := hB1
  refine lv_topi (fun x4 ex4 => ?_)
  obtain ⟨M5, hM5⟩ : ∃ z : zM, z = fX8_powerIn M3 a2 := ⟨_, rfl⟩
  have hG : z_H (dC, dI) vwCl zf ca zd ad2 M5 H := by rw [hM5]; exact hG
  have hOk2 : z_Ok M5 := hOk2.fx (by rw [hM5]; exact hFc)
  refine lv_pop hx hb dX8_causedBy_48 rfl ?_
  refine lv_aload_n hx hb dX8_causedBy_49 rfl (lv_at hl 0 rfl) ?_
  refine z_gS (k := 1) (v := ad2 0) hx hb hts hinX8 hown hK hT (by decide) rfl (hts (.fieldLink RX8 16 "Steamfield" "trial" "LSteamfield$Land;") (by decide +kernel)) (fun _ h9 => h9) dX8_causedBy_50 ?_
  refine z_grN (D := (dC, dI)) (cl := vwCl) (C := RX3) (T := TX3) (N := 15) (ci := 3) (k := 3) hx hb hts hinX3 hown hK hG zk_0 (by decide) rfl (by decide) rfl (zr_0 (k := 3) (by decide)) (hN (.fieldLinkNest RX8 118 "Steamfield$Land" "springs" "[LSteamfield$Spring;" "Steamfield") (by decide +kernel)) (fun _ h9 => h9) dX8_causedBy_53 ?_
  refine lv_iload_n hx hb dX8_causedBy_56 rfl (lv_at hl 1 rfl) ?_
  refine z_aq (t0 := 4) (D := (dC, dI)) (cl := vwCl) (tys := zt ca) hx hb hK hG zk_4 (by decide) (by decide) rfl (show vp_in a0 3 from (z_ix.in (z_ix.mono h_a0 (z_Ok.n13 hOk0)))) (show zr 4 (a0 : Int32).toNatClampNeg = some (70 + a0.toNatClampNeg) from zr_4 (z_ix.lt (z_ix.mono h_a0 (z_Ok.n13 hOk0)))) dX8_causedBy_57 ?_
  refine z_giN (D := (dC, dI)) (cl := vwCl) (C := RX5) (T := TX5) (N := 7) (ci := 5) (k := 5) hx hb hts hinX5 hown hK hG (zk_s (z_ix.lt (z_ix.mono h_a0 (z_Ok.n13 hOk0)))) (by decide) rfl (by decide) rfl (hN (.fieldLinkNest RX8 198 "Steamfield$Spring" "flowEver" "I" "Steamfield") (by decide +kernel)) (fun _ h9 => h9) dX8_causedBy_58 ?_
  refine lv_topi (fun x6 ex6 => ?_)
  refine lv_istore (lv' := [(4, .int x6), (0, .ref sf), (1, .int a0), (2, .int a1), (3, .int a2)]) hx hb dX8_causedBy_61 hl (by decide) rfl (fun ls hl => ?_)
  refine lv_aload_n hx hb dX8_causedBy_63 rfl (lv_at hl 1 rfl) ?_
  refine z_gS (k := 1) (v := ad2 0) hx hb hts hinX8 hown hK hT (by decide) rfl (hts (.fieldLink RX8 16 "Steamfield" "trial" "LSteamfield$Land;") (by decide +kernel)) (fun _ h9 => h9) dX8_causedBy_64 ?_
  refine lv_aload_n hx hb dX8_causedBy_67 rfl (lv_at hl 1 rfl) ?_
  refine z_gS (k := 0) (v := ad 0) hx hb hts hinX8 hown hK hT (by decide) rfl (hts (.fieldLink RX8 10 "Steamfield" "land" "LSteamfield$Land;") (by decide +kernel)) (fun _ h9 => h9) dX8_causedBy_68 ?_
  refine z_cVv (D := (dC, dI)) (cl := vwCl) (tys := zt ca) (nw := zw_nest) (C := RX3) (As := [.ref (ad 0)]) (rest := []) ⟨hx, hb, hml, hown, hts⟩ (m_X3_copyFrom l dC dI ca ad2 hI2 ad hI hq.xs M5 M hOk h_run) (cwV 1 hts gX8_causedBy_X3_copyFrom rfl rfl rfl (by decide +kernel) ⟨Nat.le_of_ble_eq_true rfl, Nat.le_of_ble_eq_true rfl⟩) (z_recv (ci := 3) (i := 0) hK hG zk_0 (by decide) rfl) ⟨hG, hH⟩ hK hN zw_nest_ok rfl hl.1 rfl (Nat.le_of_ble_eq_true rfl) dX8_causedBy_71 ⟨Nat.le_refl _, Nat.le_refl _⟩ hS (fun _ h => Or.inr h) (fun H locs hB1 oq1 hz1 hS => ?_)
  have hT := zT_c hT oq1 hq.a2
  obtain ⟨hG, hH⟩ := hB1
  obtain ⟨M7, hM7⟩ : ∃ z : zM, z = fX3_copyFrom M5 M  := ⟨_, rfl⟩
  have hG : z_H (dC, dI) vwCl zf ca zd ad2 M7 H := by rw [hM7]; exact hG
  have hOk2 : z_Ok M7 := by rw [hM7]; exact ok_X3_copyFrom _ _ hOk
  refine lv_aload_n hx hb dX8_causedBy_74 rfl (lv_at hl 1 rfl) ?_
  refine z_gS (k := 1) (v := ad2 0) hx hb hts hinX8 hown hK hT (by decide) rfl (hts (.fieldLink RX8 16 "Steamfield" "trial" "LSteamfield$Land;") (by decide +kernel)) (fun _ h9 => h9) dX8_causedBy_75 ?_
  refine z_grN (D := (dC, dI)) (cl := vwCl) (C := RX3) (T := TX3) (N := 15) (ci := 3) (k := 2) hx hb hts hinX3 hown hK hG zk_0 (by decide) rfl (by decide) rfl (zr_0 (k := 2) (by decide)) (hN (.fieldLinkNest RX8 102 "Steamfield$Land" "wells" "[LSteamfield$Well;" "Steamfield") (by decide +kernel)) (fun _ h9 => h9) dX8_causedBy_78 ?_
  refine lv_iload_n hx hb dX8_causedBy_81 rfl (lv_at hl 3 rfl) ?_
  refine z_aq (t0 := 3) (D := (dC, dI)) (cl := vwCl) (tys := zt ca) hx hb hK hG zk_3 (by decide) (by decide) rfl (show vp_in a1 6 from (z_ix.in (z_ix.mono h_a1 (z_Ok.n12 hOk0)))) (show zr 3 (a1 : Int32).toNatClampNeg = some (60 + a1.toNatClampNeg) from zr_3 (z_ix.lt (z_ix.mono h_a1 (z_Ok.n12 hOk0)))) dX8_causedBy_82 ?_
  refine lv_iconst (v := 0) hx hb dX8_causedBy_83 (by decide) ?_
  refine zp_iN (D := (dC, dI)) (cl := vwCl) (C := RX7) (T := TX7) (N := 9) (ci := 7) (k := 2) (ty := .int) hx hb hts hinX7 tyX7 tyX7_ok nmX7 hown hK hG hI2 hS (fun _ h => Or.inr h) (zk_v (z_ix.lt (z_ix.mono h_a1 (z_Ok.n12 hOk0)))) (by decide) rfl (by decide) rfl (hN (.fieldLinkNest RX8 131 "Steamfield$Well" "valve" "I" "Steamfield") (by decide +kernel)) (fun _ h9 => h9) rfl (by decide +kernel) rfl rfl dX8_causedBy_84 (fun H locs hG oq hS => ?_)
  have hT := zT_u hT oq (hq.2.2 _ (zk_lt (zk_v (z_ix.lt (z_ix.mono h_a1 (z_Ok.n12 hOk0)))) (by decide)))
  have hH := zW_u hH oq hq.xs (zk_lt (zk_v (z_ix.lt (z_ix.mono h_a1 (z_Ok.n12 hOk0)))) (by decide))
  obtain ⟨N8, hN8⟩ : ∃ z : zM, z = zu M7 (60 + a1.toNatClampNeg) 2 0 := ⟨_, rfl⟩
  rw [← hN8] at hG
  have hOk2 : z_Ok N8 := hOk2.fx (by rw [hN8]; exact (z_Fx.u (zk_v (z_ix.lt (z_ix.mono h_a1 (z_Ok.n12 hOk0)))) rfl))
  refine lv_aload_n hx hb dX8_causedBy_87 rfl (lv_at hl 1 rfl) ?_
  refine z_gS (k := 1) (v := ad2 0) hx hb hts hinX8 hown hK hT (by decide) rfl (hts (.fieldLink RX8 16 "Steamfield" "trial" "LSteamfield$Land;") (by decide +kernel)) (fun _ h9 => h9) dX8_causedBy_88 ?_
  refine lv_iload_n hx hb dX8_causedBy_91 rfl (lv_at hl 4 rfl) ?_
  refine z_cSi (D := (dC, dI)) (cl := vwCl) (tys := zt ca) (nw := zw_nest) (As := [.ref (ad2 0), .int a2]) (rest := []) ⟨hx, hb, hml, hown, hts⟩ (m_X8_powerIn l dC dI ca ad2 hI2 N8 a2 hOk2 (z_ix.mono (z_ix_rg r_a2 (by decide) (by decide)) (Nat.le_of_ble_eq_true rfl))) (cwS 2 hts gX8_causedBy_X8_powerIn rfl rfl rfl (by decide +kernel) ⟨Nat.le_of_ble_eq_true rfl, Nat.le_of_ble_eq_true rfl⟩) hG hK hN zw_nest_ok rfl hl.1 rfl (Nat.le_of_ble_eq_true rfl) dX8_causedBy_92 ⟨Nat.le_refl _, Nat.le_refl _⟩ hS (fun _ h => Or.inr h) (fun H locs hB1 oq1 hz1 hS => ?_)
  have hT := zT_c hT oq1 hq.a2
  have hH := zW_c hH oq1 hq.xs
  obtain ⟨hG, hFc⟩ := hB1
  refine lv_topi (fun x9 ex9 => ?_)
  obtain ⟨M10, hM10⟩ : ∃ z : zM, z = fX8_powerIn N8 a2 := ⟨_, rfl⟩
  have hG : z_H (dC, dI) vwCl zf ca zd ad2 M10 H := by rw [hM10]; exact hG
  have hOk2 : z_Ok M10 := hOk2.fx (by rw [hM10]; exact hFc)
  refine lv_pop hx hb dX8_causedBy_95 rfl ?_
  refine lv_aload_n hx hb dX8_causedBy_96 rfl (lv_at hl 1 rfl) ?_
  refine z_gS (k := 1) (v := ad2 0) hx hb hts hinX8 hown hK hT (by decide) rfl (hts (.fieldLink RX8 16 "Steamfield" "trial" "LSteamfield$Land;") (by decide +kernel)) (fun _ h9 => h9) dX8_causedBy_97 ?_
  refine z_grN (D := (dC, dI)) (cl := vwCl) (C := RX3) (T := TX3) (N := 15) (ci := 3) (k := 3) hx hb hts hinX3 hown hK hG zk_0 (by decide) rfl (by decide) rfl (zr_0 (k := 3) (by decide)) (hN (.fieldLinkNest RX8 118 "Steamfield$Land" "springs" "[LSteamfield$Spring;" "Steamfield") (by decide +kernel)) (fun _ h9 => h9) dX8_causedBy_100 ?_
  refine lv_iload_n hx hb dX8_causedBy_103 rfl (lv_at hl 2 rfl) ?_
  refine z_aq (t0 := 4) (D := (dC, dI)) (cl := vwCl) (tys := zt ca) hx hb hK hG zk_4 (by decide) (by decide) rfl (show vp_in a0 3 from (z_ix.in (z_ix.mono h_a0 (z_Ok.n13 hOk0)))) (show zr 4 (a0 : Int32).toNatClampNeg = some (70 + a0.toNatClampNeg) from zr_4 (z_ix.lt (z_ix.mono h_a0 (z_Ok.n13 hOk0)))) dX8_causedBy_104 ?_
  refine z_giN (D := (dC, dI)) (cl := vwCl) (C := RX5) (T := TX5) (N := 7) (ci := 5) (k := 5) hx hb hts hinX5 hown hK hG (zk_s (z_ix.lt (z_ix.mono h_a0 (z_Ok.n13 hOk0)))) (by decide) rfl (by decide) rfl (hN (.fieldLinkNest RX8 198 "Steamfield$Spring" "flowEver" "I" "Steamfield") (by decide +kernel)) (fun _ h9 => h9) dX8_causedBy_105 ?_
  refine lv_topi (fun x11 ex11 => ?_)
  refine lv_iload hx hb dX8_causedBy_108 (lv_at hl 0 rfl) ?_
  refine lv_isub hx hb dX8_causedBy_110 ?_
  refine lv_topi (fun x12 ex12 => ?_)
  have hF1 : zW dC dI ca ad2 (gX8_causedBy M N a0 a1 a2) H := by
    have e9 : M10 = (gX8_causedBy M N a0 a1 a2) := by subst ex12; subst ex11; subst hM10; subst ex9; subst hN8; subst hM7; subst ex6; subst hM5; subst ex4; subst hM3; subst ex2; subst ex1; rfl
    rw [← e9]; exact hG
  have hR : x12 = rX8_causedBy M N a0 a1 a2 := by subst ex12; subst ex11; subst hM10; subst ex9; subst hN8; subst hM7; subst ex6; subst hM5; subst ex4; subst hM3; subst ex2; subst ex1; rfl
  exact W.iret (v := x12) hx hb hr (fun t ht hW => ⟨⟨x12, (), rfl, hR, z_to (B := fun H => zT dC dI ca sf (ad 0) (ad2 0) H ∧ zW dC dI ca ad M H ∧ zW dC dI ca ad2 (gX8_causedBy M N a0 a1 a2) H) ht ⟨hT, hH, hF1⟩⟩, hS.F ht⟩) hS.2.2 dX8_causedBy_111

