def rX8_ofBlock (M : zM) (N : zM) (a0 : Int32) (a1 : Int32) : Int32 :=
  let x1 : Int32 := M 0 10
  if a1 = 4 then (let x3 : Int32 := rX0_pressure M a0.toNatClampNeg; x3) else if a1 = 5 then (let x5 : Int32 := rX0_warmth M a0.toNatClampNeg; x5) else (let x6 : Int32 := rX6_part M (30 + a0.toNatClampNeg) a1; x6)
set_option maxHeartbeats 4000000 in
set_option maxRecDepth 100000 in
theorem m_X8_ofBlock (l : Launch) (dC : Nat → ClassId) (dI : Nat → Nat → Nat) (ca : Nat → ClassId) (sf : Nat) (ad : Nat → Nat) (hI : z_I zd ad) (ad2 : Nat → Nat) (hI2 : z_I zd ad2) (hq : zSep sf ad ad2) (M : zM) (N : zM) (a0 : Int32) (a1 : Int32) (hOk0 : z_Ok M) (h_a0 : z_ix a0 (zc10 M)) (r_a1 : z_rg a1 0 5) : Met l yX8_ofBlock wsX8_ofBlock ({ frames := 1, cells := 0, slots := 0, locals := 22 }) (z_Pc (dC, dI) vwCl (zt ca) zw_nest [.ref sf, .int a0, .int a1] (fun H => zT dC dI ca sf (ad 0) (ad2 0) H ∧ zW dC dI ca ad M H ∧ zW dC dI ca ad2 N H)) (z_Qi (rX8_ofBlock M N a0 a1) (fun H => zT dC dI ca sf (ad 0) (ad2 0) H ∧ zW dC dI ca ad M H ∧ zW dC dI ca ad2 N H) (zA2 ad ad2)) 0 0 (zA2 ad ad2) := by
  refine Met.ofW (cc := cX8_ofBlock) (maxL := 4) (ret := (some .int)) (by decide) rfl ?_
  intro p e s m args below meth c s₁ B9 hml hv
  obtain ⟨rfl, ⟨hT, hH, hG⟩, hK, hN⟩ := hv
  have hx := B9.exec
  have hb := B9.bytes
  have hr := B9.returns
  have hts := atoms_spec (ws := wsX8_ofBlock) B9.pre
  have hown : s.vm.findClass RX8 = some m.cls := findClass_of_methodNamed B9.named
  have hlocks := B9.notSynchronized
  have hS : va_S (zA2 ad ad2) s.heap s.heap [] := va_S.rf
  have hOk := hOk0
  have hFx : z_Fx M M := z_Fx.rf
  have hT : zT dC dI ca sf (ad 0) (ad2 0) s.heap := hT
  have hH : zW dC dI ca ad M s.heap := hH
  have hG : zW dC dI ca ad2 N s.heap := hG
  have hinX0 : ∀ w ∈ u_ws RX0 TX0 3, w ∈ wsX8_ofBlock := by decide +kernel
  have hinX3 : ∀ w ∈ u_ws RX3 TX3 15, w ∈ wsX8_ofBlock := by decide +kernel
  have hinX8 : ∀ w ∈ u_ws RX8 TX8 2, w ∈ wsX8_ofBlock := by decide +kernel
  have hl := lv_entry ([.ref sf, .int a0, .int a1]) (n := 4) (Nat.le_of_ble_eq_true rfl)
  rw [lg_entry_eq]
  generalize (lg_sl ([.ref sf, .int a0, .int a1]) ++ List.replicate (4 - (lg_sl ([.ref sf, .int a0, .int a1])).length) Slot.unset).toArray = ls at hl ⊢
  have hl : lv_has ls 4 [(0, .ref sf), (1, .int a0), (2, .int a1)] := hl
  refine lv_iload_n hx hb dX8_ofBlock_0 rfl (lv_at hl 1 rfl) ?_
  refine lv_aload_n hx hb dX8_ofBlock_1 rfl (lv_at hl 0 rfl) ?_
  refine z_gS (k := 0) (v := ad 0) hx hb hts hinX8 hown hK hT (by decide) rfl (hts (.fieldLink RX8 10 "Steamfield" "land" "LSteamfield$Land;") (by decide +kernel)) (fun _ h9 => h9) dX8_ofBlock_2 ?_
  refine z_giN (D := (dC, dI)) (cl := vwCl) (C := RX3) (T := TX3) (N := 15) (ci := 3) (k := 10) hx hb hts hinX3 hown hK hH zk_0 (by decide) rfl (by decide) rfl (hN (.fieldLinkNest RX8 23 "Steamfield$Land" "blockCount" "I" "Steamfield") (by decide +kernel)) (fun _ h9 => h9) dX8_ofBlock_5 ?_
  refine lv_topi (fun x1 ex1 => ?_)
  have hx1 : x1 = nI (zc10 M) := by rw [ex1, hFx.c10]; exact z_Ok.c10 hOk0
  refine z_cSv (D := (dC, dI)) (cl := vwCl) (tys := zt ca) (nw := zw_nest) (As := [.int a0, .int x1]) (rest := []) ⟨hx, hb, hml, hown, hts⟩ (m_X8_needIndex l dC dI ca (fun z : Heap => z = s.heap)  a0 x1 (z_ni_of h_a0 hx1 (Nat.lt_of_le_of_lt (z_Ok.n10 hOk0) (by decide)))) (cwS 2 hts gX8_ofBlock_X8_needIndex rfl rfl rfl (by decide +kernel) ⟨Nat.le_of_ble_eq_true rfl, Nat.le_of_ble_eq_true rfl⟩) rfl hK hN zw_nest_ok rfl hl.1 rfl (Nat.le_of_ble_eq_true rfl) dX8_ofBlock_8 ⟨Nat.le_refl _, Nat.le_refl _⟩ hS (fun _ h => h.elim) (fun H locs hB1 oq1 hz1 hS => ?_)
  have hT : zT dC dI ca sf (ad 0) (ad2 0) H := by rw [hB1]; exact hT
  have hH : zW dC dI ca ad M H := by rw [hB1]; exact hH
  have hG : zW dC dI ca ad2 N H := by rw [hB1]; exact hG
  refine lv_iload_n hx hb dX8_ofBlock_11 rfl (lv_at hl 2 rfl) ?_
  refine lv_iconst (v := 0) hx hb dX8_ofBlock_12 (by decide) ?_
  refine lv_iconst (v := 5) hx hb dX8_ofBlock_13 (by decide) ?_
  refine z_cSv (D := (dC, dI)) (cl := vwCl) (tys := zt ca) (nw := zw_nest) (As := [.int a1, .int 0, .int 5]) (rest := []) ⟨hx, hb, hml, hown, hts⟩ (m_X8_needRange l dC dI ca (fun z : Heap => z = H)  a1 0 5 r_a1) (cwS 3 hts gX8_ofBlock_X8_needRange rfl rfl rfl (by decide +kernel) ⟨Nat.le_of_ble_eq_true rfl, Nat.le_of_ble_eq_true rfl⟩) rfl hK hN zw_nest_ok rfl hl.1 rfl (Nat.le_of_ble_eq_true rfl) dX8_ofBlock_14 ⟨Nat.le_refl _, Nat.le_refl _⟩ hS (fun _ h => h.elim) (fun H locs hB1 oq1 hz1 hS => ?_)
  have hT : zT dC dI ca sf (ad 0) (ad2 0) H := by rw [hB1]; exact hT
  have hH : zW dC dI ca ad M H := by rw [hB1]; exact hH
  have hG : zW dC dI ca ad2 N H := by rw [hB1]; exact hG
  refine lv_aload_n hx hb dX8_ofBlock_17 rfl (lv_at hl 0 rfl) ?_
  refine z_gS (k := 0) (v := ad 0) hx hb hts hinX8 hown hK hT (by decide) rfl (hts (.fieldLink RX8 10 "Steamfield" "land" "LSteamfield$Land;") (by decide +kernel)) (fun _ h9 => h9) dX8_ofBlock_18 ?_
  refine z_grN (D := (dC, dI)) (cl := vwCl) (C := RX3) (T := TX3) (N := 15) (ci := 3) (k := 0) hx hb hts hinX3 hown hK hH zk_0 (by decide) rfl (by decide) rfl (zr_0 (k := 0) (by decide)) (hN (.fieldLinkNest RX8 31 "Steamfield$Land" "blocks" "[LSteamfield$Block;" "Steamfield") (by decide +kernel)) (fun _ h9 => h9) dX8_ofBlock_21 ?_
  refine lv_iload_n hx hb dX8_ofBlock_24 rfl (lv_at hl 1 rfl) ?_
  refine z_aq (t0 := 1) (D := (dC, dI)) (cl := vwCl) (tys := zt ca) hx hb hK hH zk_1 (by decide) (by decide) rfl (show vp_in a0 8 from (z_ix.in (z_ix.mono h_a0 (z_Ok.n10 hOk0)))) (show zr 1 (a0 : Int32).toNatClampNeg = some (20 + a0.toNatClampNeg) from zr_1 (z_ix.lt (z_ix.mono h_a0 (z_Ok.n10 hOk0)))) dX8_ofBlock_25 ?_
  refine lv_astore_n (lv' := [(3, .ref (ad (20 + a0.toNatClampNeg))), (0, .ref sf), (1, .int a0), (2, .int a1)]) hx hb dX8_ofBlock_26 rfl hl (by decide) rfl (fun ls hl => ?_)
  refine lv_iload_n hx hb dX8_ofBlock_27 rfl (lv_at hl 3 rfl) ?_
  by_cases c2 : a1 = 4
  · refine lv_lookup (off := 28) (tgt := 56) hx hb dX8_ofBlock_28 (by decide) (by rw [c2]; rfl) (by decide) ?_
    refine lv_aload_n hx hb dX8_ofBlock_56 rfl (lv_at hl 0 rfl) ?_
    refine z_cVi (D := (dC, dI)) (cl := vwCl) (tys := zt ca) (nw := zw_nest) (C := RX0) (As := []) (rest := []) ⟨hx, hb, hml, hown, hts⟩ (m_X0_pressure l dC dI ca ad hI M a0.toNatClampNeg (z_ix.lt (z_ix.mono h_a0 (z_Ok.n10 hOk0)))) (cwV 0 hts gX8_ofBlock_X0_pressure rfl rfl rfl (by decide +kernel) ⟨Nat.le_of_ble_eq_true rfl, Nat.le_of_ble_eq_true rfl⟩) (z_recv (ci := 0) (i := (20 + a0.toNatClampNeg)) hK hH (zk_b (z_ix.lt (z_ix.mono h_a0 (z_Ok.n10 hOk0)))) (by decide) rfl) hH hK hN zw_nest_ok rfl hl.1 rfl (Nat.le_of_ble_eq_true rfl) dX8_ofBlock_57 ⟨Nat.le_refl _, Nat.le_refl _⟩ hS (fun _ h => Or.inl h) (fun H locs hB1 oq1 hz1 hS => ?_)
    have hT := zT_c hT oq1 hq.a1
    have hG := zW_c hG oq1 hq.x
    have hH := hB1
    refine lv_topi (fun x3 ex3 => ?_)
    have hR : x3 = rX8_ofBlock M N a0 a1 := by subst ex3; subst ex1; exact ((if_pos c2).symm)
    exact W.iret (v := x3) hx hb hr (fun t ht hW => ⟨⟨x3, (), rfl, hR, z_to (B := fun H => zT dC dI ca sf (ad 0) (ad2 0) H ∧ zW dC dI ca ad M H ∧ zW dC dI ca ad2 N H) ht ⟨hT, hH, hG⟩⟩, hS.F ht⟩) hS.2.2 dX8_ofBlock_60
  by_cases c4 : a1 = 5
  · refine lv_lookup (off := 33) (tgt := 61) hx hb dX8_ofBlock_28 (by decide) (by rw [c4]; rfl) (by decide) ?_
    refine lv_aload_n hx hb dX8_ofBlock_61 rfl (lv_at hl 0 rfl) ?_
    refine z_cVi (D := (dC, dI)) (cl := vwCl) (tys := zt ca) (nw := zw_nest) (C := RX0) (As := []) (rest := []) ⟨hx, hb, hml, hown, hts⟩ (m_X0_warmth l dC dI ca ad hI M a0.toNatClampNeg (z_ix.lt (z_ix.mono h_a0 (z_Ok.n10 hOk0)))) (cwV 0 hts gX8_ofBlock_X0_warmth rfl rfl rfl (by decide +kernel) ⟨Nat.le_of_ble_eq_true rfl, Nat.le_of_ble_eq_true rfl⟩) (z_recv (ci := 0) (i := (20 + a0.toNatClampNeg)) hK hH (zk_b (z_ix.lt (z_ix.mono h_a0 (z_Ok.n10 hOk0)))) (by decide) rfl) hH hK hN zw_nest_ok rfl hl.1 rfl (Nat.le_of_ble_eq_true rfl) dX8_ofBlock_62 ⟨Nat.le_refl _, Nat.le_refl _⟩ hS (fun _ h => Or.inl h) (fun H locs hB1 oq1 hz1 hS => ?_)
    have hT := zT_c hT oq1 hq.a1
    have hG := zW_c hG oq1 hq.x
    have hH := hB1
    refine lv_topi (fun x5 ex5 => ?_)
    have hR : x5 = rX8_ofBlock M N a0 a1 := by subst ex5; subst ex1; exact (((if_pos c4).symm).trans (if_neg c2).symm)
    exact W.iret (v := x5) hx hb hr (fun t ht hW => ⟨⟨x5, (), rfl, hR, z_to (B := fun H => zT dC dI ca sf (ad 0) (ad2 0) H ∧ zW dC dI ca ad M H ∧ zW dC dI ca ad2 N H) ht ⟨hT, hH, hG⟩⟩, hS.F ht⟩) hS.2.2 dX8_ofBlock_65
  refine lv_lookup (off := 38) (tgt := 66) hx hb dX8_ofBlock_28 (by decide) (by show Op.lookupswitch.offset [(4, 28), (5, 33)] 38 a1.toInt = 38; rw [lv_osw (a := 4) c2 (by decide)]; rw [lv_osw (a := 5) c4 (by decide)]; rfl) (by decide) ?_
  refine lv_aload_n hx hb dX8_ofBlock_66 rfl (lv_at hl 0 rfl) ?_
  refine z_grN (D := (dC, dI)) (cl := vwCl) (C := RX0) (T := TX0) (N := 3) (ci := 0) (k := 0) hx hb hts hinX0 hown hK hH (zk_b (z_ix.lt (z_ix.mono h_a0 (z_Ok.n10 hOk0)))) (by decide) rfl (by decide) rfl (zr_b (z_ix.lt (z_ix.mono h_a0 (z_Ok.n10 hOk0)))) (hN (.fieldLinkNest RX8 43 "Steamfield$Block" "water" "LSteamfield$Water;" "Steamfield") (by decide +kernel)) (fun _ h9 => h9) dX8_ofBlock_67 ?_
  refine lv_iload_n hx hb dX8_ofBlock_70 rfl (lv_at hl 3 rfl) ?_
  refine z_cVi (D := (dC, dI)) (cl := vwCl) (tys := zt ca) (nw := zw_nest) (C := RX6) (As := [.int a1]) (rest := []) ⟨hx, hb, hml, hown, hts⟩ (m_X6_part l dC dI ca ad hI M (30 + a0.toNatClampNeg) (zk_w (z_ix.lt (z_ix.mono h_a0 (z_Ok.n10 hOk0)))) a1) (cwV 1 hts gX8_ofBlock_X6_part rfl rfl rfl (by decide +kernel) ⟨Nat.le_of_ble_eq_true rfl, Nat.le_of_ble_eq_true rfl⟩) (z_recv (ci := 6) (i := (30 + a0.toNatClampNeg)) hK hH (zk_w (z_ix.lt (z_ix.mono h_a0 (z_Ok.n10 hOk0)))) (by decide) rfl) hH hK hN zw_nest_ok rfl hl.1 rfl (Nat.le_of_ble_eq_true rfl) dX8_ofBlock_71 ⟨Nat.le_refl _, Nat.le_refl _⟩ hS (fun _ h => Or.inl h) (fun H locs hB1 oq1 hz1 hS => ?_)
  have hT := zT_c hT oq1 hq.a1
  have hG := zW_c hG oq1 hq.x
  have hH := hB1
  refine lv_topi (fun x6 ex6 => ?_)
  have hR : x6 = rX8_ofBlock M N a0 a1 := by subst ex6; subst ex1; exact (((if_neg c4).symm).trans (if_neg c2).symm)
  exact W.iret (v := x6) hx hb hr (fun t ht hW => ⟨⟨x6, (), rfl, hR, z_to (B := fun H => zT dC dI ca sf (ad 0) (ad2 0) H ∧ zW dC dI ca ad M H ∧ zW dC dI ca ad2 N H) ht ⟨hT, hH, hG⟩⟩, hS.F ht⟩) hS.2.2 dX8_ofBlock_74

def rX8_ofWell (M : zM) (N : zM) (a0 : Int32) (a1 : Int32) : Int32 :=
  let x1 : Int32 := M 0 12
  if a1 = 0 then (let x3 : Int32 := M (60 + a0.toNatClampNeg) 0; x3) else if a1 = 1 then (let x5 : Int32 := M (60 + a0.toNatClampNeg) 1; let x7 : Int32 := if x5 = 0 then 0 else 1; x7) else if a1 = 2 then (let x10 : Int32 := M (60 + a0.toNatClampNeg) 2; x10) else if a1 = 3 then (let x12 : Int32 := M (60 + a0.toNatClampNeg) 3; x12) else if a1 = 4 then (let x14 : Int32 := M (60 + a0.toNatClampNeg) 4; x14) else if a1 = 5 then (let x16 : Int32 := M (60 + a0.toNatClampNeg) 5; x16) else if a1 = 6 then (let x18 : Int32 := M (60 + a0.toNatClampNeg) 6; x18) else if a1 = 7 then (let x20 : Int32 := M (60 + a0.toNatClampNeg) 7; x20) else (let x21 : Int32 := M (60 + a0.toNatClampNeg) 8; x21)
set_option maxHeartbeats 4000000 in
set_option maxRecDepth 100000 in
theorem m_X8_ofWell (l : Launch) (dC : Nat → ClassId) (dI : Nat → Nat → Nat) (ca : Nat → ClassId) (sf : Nat) (ad : Nat → Nat) (hI : z_I zd ad) (ad2 : Nat → Nat) (hI2 : z_I zd ad2) (hq : zSep sf ad ad2) (M : zM) (N : zM) (a0 : Int32) (a1 : Int32) (hOk0 : z_Ok M) (h_a0 : z_ix a0 (zc12 M)) (r_a1 : z_rg a1 0 8) : Met l yX8_ofWell wsX8_ofWell ({ frames := 1, cells := 0, slots := 0, locals := 22 }) (z_Pc (dC, dI) vwCl (zt ca) zw_nest [.ref sf, .int a0, .int a1] (fun H => zT dC dI ca sf (ad 0) (ad2 0) H ∧ zW dC dI ca ad M H ∧ zW dC dI ca ad2 N H)) (z_Qi (rX8_ofWell M N a0 a1) (fun H => zT dC dI ca sf (ad 0) (ad2 0) H ∧ zW dC dI ca ad M H ∧ zW dC dI ca ad2 N H) (zA2 ad ad2)) 0 0 (zA2 ad ad2) := by
  refine Met.ofW (cc := cX8_ofWell) (maxL := 4) (ret := (some .int)) (by decide) rfl ?_
  intro p e s m args below meth c s₁ B9 hml hv
  obtain ⟨rfl, ⟨hT, hH, hG⟩, hK, hN⟩ := hv
  have hx := B9.exec
  have hb := B9.bytes
  have hr := B9.returns
  have hts := atoms_spec (ws := wsX8_ofWell) B9.pre
  have hown : s.vm.findClass RX8 = some m.cls := findClass_of_methodNamed B9.named
  have hlocks := B9.notSynchronized
  have hS : va_S (zA2 ad ad2) s.heap s.heap [] := va_S.rf
  have hOk := hOk0
  have hFx : z_Fx M M := z_Fx.rf
  have hT : zT dC dI ca sf (ad 0) (ad2 0) s.heap := hT
  have hH : zW dC dI ca ad M s.heap := hH
  have hG : zW dC dI ca ad2 N s.heap := hG
  have hinX3 : ∀ w ∈ u_ws RX3 TX3 15, w ∈ wsX8_ofWell := by decide +kernel
  have hinX7 : ∀ w ∈ u_ws RX7 TX7 9, w ∈ wsX8_ofWell := by decide +kernel
  have hinX8 : ∀ w ∈ u_ws RX8 TX8 2, w ∈ wsX8_ofWell := by decide +kernel
  have hl := lv_entry ([.ref sf, .int a0, .int a1]) (n := 4) (Nat.le_of_ble_eq_true rfl)
  rw [lg_entry_eq]
  generalize (lg_sl ([.ref sf, .int a0, .int a1]) ++ List.replicate (4 - (lg_sl ([.ref sf, .int a0, .int a1])).length) Slot.unset).toArray = ls at hl ⊢
  have hl : lv_has ls 4 [(0, .ref sf), (1, .int a0), (2, .int a1)] := hl
  refine lv_iload_n hx hb dX8_ofWell_0 rfl (lv_at hl 1 rfl) ?_
  refine lv_aload_n hx hb dX8_ofWell_1 rfl (lv_at hl 0 rfl) ?_
  refine z_gS (k := 0) (v := ad 0) hx hb hts hinX8 hown hK hT (by decide) rfl (hts (.fieldLink RX8 10 "Steamfield" "land" "LSteamfield$Land;") (by decide +kernel)) (fun _ h9 => h9) dX8_ofWell_2 ?_
  refine z_giN (D := (dC, dI)) (cl := vwCl) (C := RX3) (T := TX3) (N := 15) (ci := 3) (k := 12) hx hb hts hinX3 hown hK hH zk_0 (by decide) rfl (by decide) rfl (hN (.fieldLinkNest RX8 99 "Steamfield$Land" "wellCount" "I" "Steamfield") (by decide +kernel)) (fun _ h9 => h9) dX8_ofWell_5 ?_
  refine lv_topi (fun x1 ex1 => ?_)
  have hx1 : x1 = nI (zc12 M) := by rw [ex1, hFx.c12]; exact z_Ok.c12 hOk0
  refine z_cSv (D := (dC, dI)) (cl := vwCl) (tys := zt ca) (nw := zw_nest) (As := [.int a0, .int x1]) (rest := []) ⟨hx, hb, hml, hown, hts⟩ (m_X8_needIndex l dC dI ca (fun z : Heap => z = s.heap)  a0 x1 (z_ni_of h_a0 hx1 (Nat.lt_of_le_of_lt (z_Ok.n12 hOk0) (by decide)))) (cwS 2 hts gX8_ofWell_X8_needIndex rfl rfl rfl (by decide +kernel) ⟨Nat.le_of_ble_eq_true rfl, Nat.le_of_ble_eq_true rfl⟩) rfl hK hN zw_nest_ok rfl hl.1 rfl (Nat.le_of_ble_eq_true rfl) dX8_ofWell_8 ⟨Nat.le_refl _, Nat.le_refl _⟩ hS (fun _ h => h.elim) (fun H locs hB1 oq1 hz1 hS => ?_)
  have hT : zT dC dI ca sf (ad 0) (ad2 0) H := by rw [hB1]; exact hT
  have hH : zW dC dI ca ad M H := by rw [hB1]; exact hH
  have hG : zW dC dI ca ad2 N H := by rw [hB1]; exact hG
  refine lv_iload_n hx hb dX8_ofWell_11 rfl (lv_at hl 2 rfl) ?_
  refine lv_iconst (v := 0) hx hb dX8_ofWell_12 (by decide) ?_
  refine lv_bipush (v := 8) hx hb dX8_ofWell_13 (by decide) ?_
  refine z_cSv (D := (dC, dI)) (cl := vwCl) (tys := zt ca) (nw := zw_nest) (As := [.int a1, .int 0, .int 8]) (rest := []) ⟨hx, hb, hml, hown, hts⟩ (m_X8_needRange l dC dI ca (fun z : Heap => z = H)  a1 0 8 r_a1) (cwS 3 hts gX8_ofWell_X8_needRange rfl rfl rfl (by decide +kernel) ⟨Nat.le_of_ble_eq_true rfl, Nat.le_of_ble_eq_true rfl⟩) rfl hK hN zw_nest_ok rfl hl.1 rfl (Nat.le_of_ble_eq_true rfl) dX8_ofWell_15 ⟨Nat.le_refl _, Nat.le_refl _⟩ hS (fun _ h => h.elim) (fun H locs hB1 oq1 hz1 hS => ?_)
  have hT : zT dC dI ca sf (ad 0) (ad2 0) H := by rw [hB1]; exact hT
  have hH : zW dC dI ca ad M H := by rw [hB1]; exact hH
  have hG : zW dC dI ca ad2 N H := by rw [hB1]; exact hG
  refine lv_aload_n hx hb dX8_ofWell_18 rfl (lv_at hl 0 rfl) ?_
  refine z_gS (k := 0) (v := ad 0) hx hb hts hinX8 hown hK hT (by decide) rfl (hts (.fieldLink RX8 10 "Steamfield" "land" "LSteamfield$Land;") (by decide +kernel)) (fun _ h9 => h9) dX8_ofWell_19 ?_
  refine z_grN (D := (dC, dI)) (cl := vwCl) (C := RX3) (T := TX3) (N := 15) (ci := 3) (k := 2) hx hb hts hinX3 hown hK hH zk_0 (by decide) rfl (by decide) rfl (zr_0 (k := 2) (by decide)) (hN (.fieldLinkNest RX8 102 "Steamfield$Land" "wells" "[LSteamfield$Well;" "Steamfield") (by decide +kernel)) (fun _ h9 => h9) dX8_ofWell_22 ?_
  refine lv_iload_n hx hb dX8_ofWell_25 rfl (lv_at hl 1 rfl) ?_
  refine z_aq (t0 := 3) (D := (dC, dI)) (cl := vwCl) (tys := zt ca) hx hb hK hH zk_3 (by decide) (by decide) rfl (show vp_in a0 6 from (z_ix.in (z_ix.mono h_a0 (z_Ok.n12 hOk0)))) (show zr 3 (a0 : Int32).toNatClampNeg = some (60 + a0.toNatClampNeg) from zr_3 (z_ix.lt (z_ix.mono h_a0 (z_Ok.n12 hOk0)))) dX8_ofWell_26 ?_
  refine lv_astore_n (lv' := [(3, .ref (ad (60 + a0.toNatClampNeg))), (0, .ref sf), (1, .int a0), (2, .int a1)]) hx hb dX8_ofWell_27 rfl hl (by decide) rfl (fun ls hl => ?_)
  refine lv_iload_n hx hb dX8_ofWell_28 rfl (lv_at hl 3 rfl) ?_
  by_cases c2 : a1 = 0
  · refine lv_tableIn (off := 47) (tgt := 76) hx hb dX8_ofWell_29 (by rw [c2]; decide) (by rw [c2]; decide) (z_t c2 rfl) (by decide) ?_
    refine lv_aload_n hx hb dX8_ofWell_76 rfl (lv_at hl 0 rfl) ?_
    refine z_giN (D := (dC, dI)) (cl := vwCl) (C := RX7) (T := TX7) (N := 9) (ci := 7) (k := 0) hx hb hts hinX7 hown hK hH (zk_v (z_ix.lt (z_ix.mono h_a0 (z_Ok.n12 hOk0)))) (by decide) rfl (by decide) rfl (hN (.fieldLinkNest RX8 106 "Steamfield$Well" "block" "I" "Steamfield") (by decide +kernel)) (fun _ h9 => h9) dX8_ofWell_77 ?_
    refine lv_topi (fun x3 ex3 => ?_)
    have hx3 : z_ix x3 8 := by rw [ex3]; exact z_Ok.wblock hOk (z_ix.lt (z_ix.mono h_a0 (z_Ok.n12 hOk0)))
    have hR : x3 = rX8_ofWell M N a0 a1 := by subst ex3; subst ex1; exact ((if_pos c2).symm)
    exact W.iret (v := x3) hx hb hr (fun t ht hW => ⟨⟨x3, (), rfl, hR, z_to (B := fun H => zT dC dI ca sf (ad 0) (ad2 0) H ∧ zW dC dI ca ad M H ∧ zW dC dI ca ad2 N H) ht ⟨hT, hH, hG⟩⟩, hS.F ht⟩) hS.2.2 dX8_ofWell_80
  by_cases c4 : a1 = 1
  · refine lv_tableIn (off := 52) (tgt := 81) hx hb dX8_ofWell_29 (by rw [c4]; decide) (by rw [c4]; decide) (z_t c4 rfl) (by decide) ?_
    refine lv_aload_n hx hb dX8_ofWell_81 rfl (lv_at hl 0 rfl) ?_
    refine z_giN (D := (dC, dI)) (cl := vwCl) (C := RX7) (T := TX7) (N := 9) (ci := 7) (k := 1) hx hb hts hinX7 hown hK hH (zk_v (z_ix.lt (z_ix.mono h_a0 (z_Ok.n12 hOk0)))) (by decide) rfl (by decide) rfl (hN (.fieldLinkNest RX8 111 "Steamfield$Well" "isInjector" "Z" "Steamfield") (by decide +kernel)) (fun _ h9 => h9) dX8_ofWell_82 ?_
    refine lv_topi (fun x5 ex5 => ?_)
    have J8 : ∀ x7 : Int32, x7 = (if x5 = 0 then 0 else 1) → ∀ ls : Array Slot, lv_has ls 4 [(0, .ref sf), (1, .int a0), (2, .int a1), (3, .ref (ad (60 + a0.toNatClampNeg)))] → W p l e (headSpec wsX8_ofWell ({ frames := 1, cells := 0, slots := 0, locals := 22 })).room s m ([.ref sf, .int a0, .int a1] : List Value).toArray below meth c H locs 0 0 (MQ below (z_Qi (rX8_ofWell M N a0 a1) (fun H => zT dC dI ca sf (ad 0) (ad2 0) H ∧ zW dC dI ca ad M H ∧ zW dC dI ca ad2 N H) (zA2 ad ad2)) ([.ref sf, .int a0, .int a1] : List Value).toArray s 0 0 (zA2 ad ad2)) (F0 m 93 ls [.int x7]) := by
      intro x7 ex7 ls hl
      have hR : x7 = rX8_ofWell M N a0 a1 := by subst ex7; subst ex5; subst ex1; exact (((if_pos c4).symm).trans (if_neg c2).symm)
      exact W.iret (v := x7) hx hb hr (fun t ht hW => ⟨⟨x7, (), rfl, hR, z_to (B := fun H => zT dC dI ca sf (ad 0) (ad2 0) H ∧ zW dC dI ca ad M H ∧ zW dC dI ca ad2 N H) ht ⟨hT, hH, hG⟩⟩, hS.F ht⟩) hS.2.2 dX8_ofWell_93
    refine lv_if_eq (tgt := 92) hx hb dX8_ofWell_85 (by decide) (fun c6 => ?_) (fun c6 => ?_)
    · refine lv_iconst (v := 0) hx hb dX8_ofWell_92 (by decide) ?_
      exact J8 _ (by exact (if_pos c6).symm) ls (lv_sub hl [1, 2, 3, 0] rfl)
    · refine lv_iconst (v := 1) hx hb dX8_ofWell_88 (by decide) ?_
      refine lv_goto (tgt := 93) hx hb dX8_ofWell_89 (by decide) ?_
      exact J8 _ (by exact (if_neg c6).symm) ls (lv_sub hl [1, 2, 3, 0] rfl)
  by_cases c9 : a1 = 2
  · refine lv_tableIn (off := 65) (tgt := 94) hx hb dX8_ofWell_29 (by rw [c9]; decide) (by rw [c9]; decide) (z_t c9 rfl) (by decide) ?_
    refine lv_aload_n hx hb dX8_ofWell_94 rfl (lv_at hl 0 rfl) ?_
    refine z_giN (D := (dC, dI)) (cl := vwCl) (C := RX7) (T := TX7) (N := 9) (ci := 7) (k := 2) hx hb hts hinX7 hown hK hH (zk_v (z_ix.lt (z_ix.mono h_a0 (z_Ok.n12 hOk0)))) (by decide) rfl (by decide) rfl (hN (.fieldLinkNest RX8 131 "Steamfield$Well" "valve" "I" "Steamfield") (by decide +kernel)) (fun _ h9 => h9) dX8_ofWell_95 ?_
    refine lv_topi (fun x10 ex10 => ?_)
    have hR : x10 = rX8_ofWell M N a0 a1 := by subst ex10; subst ex1; exact ((((if_pos c9).symm).trans (if_neg c4).symm).trans (if_neg c2).symm)
    exact W.iret (v := x10) hx hb hr (fun t ht hW => ⟨⟨x10, (), rfl, hR, z_to (B := fun H => zT dC dI ca sf (ad 0) (ad2 0) H ∧ zW dC dI ca ad M H ∧ zW dC dI ca ad2 N H) ht ⟨hT, hH, hG⟩⟩, hS.F ht⟩) hS.2.2 dX8_ofWell_98
  by_cases c11 : a1 = 3
  · refine lv_tableIn (off := 70) (tgt := 99) hx hb dX8_ofWell_29 (by rw [c11]; decide) (by rw [c11]; decide) (z_t c11 rfl) (by decide) ?_
    refine lv_aload_n hx hb dX8_ofWell_99 rfl (lv_at hl 0 rfl) ?_
    refine z_giN (D := (dC, dI)) (cl := vwCl) (C := RX7) (T := TX7) (N := 9) (ci := 7) (k := 3) hx hb hts hinX7 hown hK hH (zk_v (z_ix.lt (z_ix.mono h_a0 (z_Ok.n12 hOk0)))) (by decide) rfl (by decide) rfl (hN (.fieldLinkNest RX8 142 "Steamfield$Well" "scale" "I" "Steamfield") (by decide +kernel)) (fun _ h9 => h9) dX8_ofWell_100 ?_
    refine lv_topi (fun x12 ex12 => ?_)
    have hR : x12 = rX8_ofWell M N a0 a1 := by subst ex12; subst ex1; exact (((((if_pos c11).symm).trans (if_neg c9).symm).trans (if_neg c4).symm).trans (if_neg c2).symm)
    exact W.iret (v := x12) hx hb hr (fun t ht hW => ⟨⟨x12, (), rfl, hR, z_to (B := fun H => zT dC dI ca sf (ad 0) (ad2 0) H ∧ zW dC dI ca ad M H ∧ zW dC dI ca ad2 N H) ht ⟨hT, hH, hG⟩⟩, hS.F ht⟩) hS.2.2 dX8_ofWell_103
  by_cases c13 : a1 = 4
  · refine lv_tableIn (off := 75) (tgt := 104) hx hb dX8_ofWell_29 (by rw [c13]; decide) (by rw [c13]; decide) (z_t c13 rfl) (by decide) ?_
    refine lv_aload_n hx hb dX8_ofWell_104 rfl (lv_at hl 0 rfl) ?_
    refine z_giN (D := (dC, dI)) (cl := vwCl) (C := RX7) (T := TX7) (N := 9) (ci := 7) (k := 4) hx hb hts hinX7 hown hK hH (zk_v (z_ix.lt (z_ix.mono h_a0 (z_Ok.n12 hOk0)))) (by decide) rfl (by decide) rfl (hN (.fieldLinkNest RX8 151 "Steamfield$Well" "crust" "I" "Steamfield") (by decide +kernel)) (fun _ h9 => h9) dX8_ofWell_105 ?_
    refine lv_topi (fun x14 ex14 => ?_)
    have hR : x14 = rX8_ofWell M N a0 a1 := by subst ex14; subst ex1; exact ((((((if_pos c13).symm).trans (if_neg c11).symm).trans (if_neg c9).symm).trans (if_neg c4).symm).trans (if_neg c2).symm)
    exact W.iret (v := x14) hx hb hr (fun t ht hW => ⟨⟨x14, (), rfl, hR, z_to (B := fun H => zT dC dI ca sf (ad 0) (ad2 0) H ∧ zW dC dI ca ad M H ∧ zW dC dI ca ad2 N H) ht ⟨hT, hH, hG⟩⟩, hS.F ht⟩) hS.2.2 dX8_ofWell_108
  by_cases c15 : a1 = 5
  · refine lv_tableIn (off := 80) (tgt := 109) hx hb dX8_ofWell_29 (by rw [c15]; decide) (by rw [c15]; decide) (z_t c15 rfl) (by decide) ?_
    refine lv_aload_n hx hb dX8_ofWell_109 rfl (lv_at hl 0 rfl) ?_
    refine z_giN (D := (dC, dI)) (cl := vwCl) (C := RX7) (T := TX7) (N := 9) (ci := 7) (k := 5) hx hb hts hinX7 hown hK hH (zk_v (z_ix.lt (z_ix.mono h_a0 (z_Ok.n12 hOk0)))) (by decide) rfl (by decide) rfl (hN (.fieldLinkNest RX8 184 "Steamfield$Well" "flow" "I" "Steamfield") (by decide +kernel)) (fun _ h9 => h9) dX8_ofWell_110 ?_
    refine lv_topi (fun x16 ex16 => ?_)
    have hR : x16 = rX8_ofWell M N a0 a1 := by subst ex16; subst ex1; exact (((((((if_pos c15).symm).trans (if_neg c13).symm).trans (if_neg c11).symm).trans (if_neg c9).symm).trans (if_neg c4).symm).trans (if_neg c2).symm)
    exact W.iret (v := x16) hx hb hr (fun t ht hW => ⟨⟨x16, (), rfl, hR, z_to (B := fun H => zT dC dI ca sf (ad 0) (ad2 0) H ∧ zW dC dI ca ad M H ∧ zW dC dI ca ad2 N H) ht ⟨hT, hH, hG⟩⟩, hS.F ht⟩) hS.2.2 dX8_ofWell_113
  by_cases c17 : a1 = 6
  · refine lv_tableIn (off := 85) (tgt := 114) hx hb dX8_ofWell_29 (by rw [c17]; decide) (by rw [c17]; decide) (z_t c17 rfl) (by decide) ?_
    refine lv_aload_n hx hb dX8_ofWell_114 rfl (lv_at hl 0 rfl) ?_
    refine z_giN (D := (dC, dI)) (cl := vwCl) (C := RX7) (T := TX7) (N := 9) (ci := 7) (k := 6) hx hb hts hinX7 hown hK hH (zk_v (z_ix.lt (z_ix.mono h_a0 (z_Ok.n12 hOk0)))) (by decide) rfl (by decide) rfl (hN (.fieldLinkNest RX8 187 "Steamfield$Well" "steam" "I" "Steamfield") (by decide +kernel)) (fun _ h9 => h9) dX8_ofWell_115 ?_
    refine lv_topi (fun x18 ex18 => ?_)
    have hR : x18 = rX8_ofWell M N a0 a1 := by subst ex18; subst ex1; exact ((((((((if_pos c17).symm).trans (if_neg c15).symm).trans (if_neg c13).symm).trans (if_neg c11).symm).trans (if_neg c9).symm).trans (if_neg c4).symm).trans (if_neg c2).symm)
    exact W.iret (v := x18) hx hb hr (fun t ht hW => ⟨⟨x18, (), rfl, hR, z_to (B := fun H => zT dC dI ca sf (ad 0) (ad2 0) H ∧ zW dC dI ca ad M H ∧ zW dC dI ca ad2 N H) ht ⟨hT, hH, hG⟩⟩, hS.F ht⟩) hS.2.2 dX8_ofWell_118
  by_cases c19 : a1 = 7
  · refine lv_tableIn (off := 90) (tgt := 119) hx hb dX8_ofWell_29 (by rw [c19]; decide) (by rw [c19]; decide) (z_t c19 rfl) (by decide) ?_
    refine lv_aload_n hx hb dX8_ofWell_119 rfl (lv_at hl 0 rfl) ?_
    refine z_giN (D := (dC, dI)) (cl := vwCl) (C := RX7) (T := TX7) (N := 9) (ci := 7) (k := 7) hx hb hts hinX7 hown hK hH (zk_v (z_ix.lt (z_ix.mono h_a0 (z_Ok.n12 hOk0)))) (by decide) rfl (by decide) rfl (hN (.fieldLinkNest RX8 190 "Steamfield$Well" "tracer" "I" "Steamfield") (by decide +kernel)) (fun _ h9 => h9) dX8_ofWell_120 ?_
    refine lv_topi (fun x20 ex20 => ?_)
    have hR : x20 = rX8_ofWell M N a0 a1 := by subst ex20; subst ex1; exact (((((((((if_pos c19).symm).trans (if_neg c17).symm).trans (if_neg c15).symm).trans (if_neg c13).symm).trans (if_neg c11).symm).trans (if_neg c9).symm).trans (if_neg c4).symm).trans (if_neg c2).symm)
    exact W.iret (v := x20) hx hb hr (fun t ht hW => ⟨⟨x20, (), rfl, hR, z_to (B := fun H => zT dC dI ca sf (ad 0) (ad2 0) H ∧ zW dC dI ca ad M H ∧ zW dC dI ca ad2 N H) ht ⟨hT, hH, hG⟩⟩, hS.F ht⟩) hS.2.2 dX8_ofWell_123
  refine lv_tableOut (tgt := 124) hx hb dX8_ofWell_29 (z_tout8 c2 c4 c9 c11 c13 c15 c17 c19) (by decide) ?_
  refine lv_aload_n hx hb dX8_ofWell_124 rfl (lv_at hl 0 rfl) ?_
  refine z_giN (D := (dC, dI)) (cl := vwCl) (C := RX7) (T := TX7) (N := 9) (ci := 7) (k := 8) hx hb hts hinX7 hown hK hH (zk_v (z_ix.lt (z_ix.mono h_a0 (z_Ok.n12 hOk0)))) (by decide) rfl (by decide) rfl (hN (.fieldLinkNest RX8 191 "Steamfield$Well" "flowEver" "I" "Steamfield") (by decide +kernel)) (fun _ h9 => h9) dX8_ofWell_125 ?_
  refine lv_topi (fun x21 ex21 => ?_)
  have hR : x21 = rX8_ofWell M N a0 a1 := by subst ex21; subst ex1; exact (((((((((if_neg c19).symm).trans (if_neg c17).symm).trans (if_neg c15).symm).trans (if_neg c13).symm).trans (if_neg c11).symm).trans (if_neg c9).symm).trans (if_neg c4).symm).trans (if_neg c2).symm)
  exact W.iret (v := x21) hx hb hr (fun t ht hW => ⟨⟨x21, (), rfl, hR, z_to (B := fun H => zT dC dI ca sf (ad 0) (ad2 0) H ∧ zW dC dI ca ad M H ∧ zW dC dI ca ad2 N H) ht ⟨hT, hH, hG⟩⟩, hS.F ht⟩) hS.2.2 dX8_ofWell_128

def rX8_ofSpring (M : zM) (N : zM) (a0 : Int32) (a1 : Int32) : Int32 :=
  let x1 : Int32 := M 0 13
  if a1 = 0 then (let x3 : Int32 := M (70 + a0.toNatClampNeg) 3; x3) else if a1 = 1 then (let x5 : Int32 := M (70 + a0.toNatClampNeg) 4; x5) else if a1 = 2 then (let x7 : Int32 := M (70 + a0.toNatClampNeg) 5; x7) else (let x8 : Int32 := M (70 + a0.toNatClampNeg) 6; x8)
set_option maxHeartbeats 4000000 in
set_option maxRecDepth 100000 in
theorem m_X8_ofSpring (l : Launch) (dC : Nat → ClassId) (dI : Nat → Nat → Nat) (ca : Nat → ClassId) (sf : Nat) (ad : Nat → Nat) (hI : z_I zd ad) (ad2 : Nat → Nat) (hI2 : z_I zd ad2) (hq : zSep sf ad ad2) (M : zM) (N : zM) (a0 : Int32) (a1 : Int32) (hOk0 : z_Ok M) (h_a0 : z_ix a0 (zc13 M)) (r_a1 : z_rg a1 0 3) : Met l yX8_ofSpring wsX8_ofSpring ({ frames := 1, cells := 0, slots := 0, locals := 22 }) (z_Pc (dC, dI) vwCl (zt ca) zw_nest [.ref sf, .int a0, .int a1] (fun H => zT dC dI ca sf (ad 0) (ad2 0) H ∧ zW dC dI ca ad M H ∧ zW dC dI ca ad2 N H)) (z_Qi (rX8_ofSpring M N a0 a1) (fun H => zT dC dI ca sf (ad 0) (ad2 0) H ∧ zW dC dI ca ad M H ∧ zW dC dI ca ad2 N H) (zA2 ad ad2)) 0 0 (zA2 ad ad2) := by
  refine Met.ofW (cc := cX8_ofSpring) (maxL := 4) (ret := (some .int)) (by decide) rfl ?_
  intro p e s m args below meth c s₁ B9 hml hv
  obtain ⟨rfl, ⟨hT, hH, hG⟩, hK, hN⟩ := hv
  have hx := B9.exec
  have hb := B9.bytes
  have hr := B9.returns
  have hts := atoms_spec (ws := wsX8_ofSpring) B9.pre
  have hown : s.vm.findClass RX8 = some m.cls := findClass_of_methodNamed B9.named
  have hlocks := B9.notSynchronized
  have hS : va_S (zA2 ad ad2) s.heap s.heap [] := va_S.rf
  have hOk := hOk0
  have hFx : z_Fx M M := z_Fx.rf
  have hT : zT dC dI ca sf (ad 0) (ad2 0) s.heap := hT
  have hH : zW dC dI ca ad M s.heap := hH
  have hG : zW dC dI ca ad2 N s.heap := hG
  have hinX3 : ∀ w ∈ u_ws RX3 TX3 15, w ∈ wsX8_ofSpring := by decide +kernel
  have hinX5 : ∀ w ∈ u_ws RX5 TX5 7, w ∈ wsX8_ofSpring := by decide +kernel
  have hinX8 : ∀ w ∈ u_ws RX8 TX8 2, w ∈ wsX8_ofSpring := by decide +kernel
  have hl := lv_entry ([.ref sf, .int a0, .int a1]) (n := 4) (Nat.le_of_ble_eq_true rfl)
  rw [lg_entry_eq]
  generalize (lg_sl ([.ref sf, .int a0, .int a1]) ++ List.replicate (4 - (lg_sl ([.ref sf, .int a0, .int a1])).length) Slot.unset).toArray = ls at hl ⊢
  have hl : lv_has ls 4 [(0, .ref sf), (1, .int a0), (2, .int a1)] := hl
  refine lv_iload_n hx hb dX8_ofSpring_0 rfl (lv_at hl 1 rfl) ?_
  refine lv_aload_n hx hb dX8_ofSpring_1 rfl (lv_at hl 0 rfl) ?_
  refine z_gS (k := 0) (v := ad 0) hx hb hts hinX8 hown hK hT (by decide) rfl (hts (.fieldLink RX8 10 "Steamfield" "land" "LSteamfield$Land;") (by decide +kernel)) (fun _ h9 => h9) dX8_ofSpring_2 ?_
  refine z_giN (D := (dC, dI)) (cl := vwCl) (C := RX3) (T := TX3) (N := 15) (ci := 3) (k := 13) hx hb hts hinX3 hown hK hH zk_0 (by decide) rfl (by decide) rfl (hN (.fieldLinkNest RX8 115 "Steamfield$Land" "springCount" "I" "Steamfield") (by decide +kernel)) (fun _ h9 => h9) dX8_ofSpring_5 ?_
  refine lv_topi (fun x1 ex1 => ?_)
  have hx1 : x1 = nI (zc13 M) := by rw [ex1, hFx.c13]; exact z_Ok.c13 hOk0
  refine z_cSv (D := (dC, dI)) (cl := vwCl) (tys := zt ca) (nw := zw_nest) (As := [.int a0, .int x1]) (rest := []) ⟨hx, hb, hml, hown, hts⟩ (m_X8_needIndex l dC dI ca (fun z : Heap => z = s.heap)  a0 x1 (z_ni_of h_a0 hx1 (Nat.lt_of_le_of_lt (z_Ok.n13 hOk0) (by decide)))) (cwS 2 hts gX8_ofSpring_X8_needIndex rfl rfl rfl (by decide +kernel) ⟨Nat.le_of_ble_eq_true rfl, Nat.le_of_ble_eq_true rfl⟩) rfl hK hN zw_nest_ok rfl hl.1 rfl (Nat.le_of_ble_eq_true rfl) dX8_ofSpring_8 ⟨Nat.le_refl _, Nat.le_refl _⟩ hS (fun _ h => h.elim) (fun H locs hB1 oq1 hz1 hS => ?_)
  have hT : zT dC dI ca sf (ad 0) (ad2 0) H := by rw [hB1]; exact hT
  have hH : zW dC dI ca ad M H := by rw [hB1]; exact hH
  have hG : zW dC dI ca ad2 N H := by rw [hB1]; exact hG
  refine lv_iload_n hx hb dX8_ofSpring_11 rfl (lv_at hl 2 rfl) ?_
  refine lv_iconst (v := 0) hx hb dX8_ofSpring_12 (by decide) ?_
  refine lv_iconst (v := 3) hx hb dX8_ofSpring_13 (by decide) ?_
  refine z_cSv (D := (dC, dI)) (cl := vwCl) (tys := zt ca) (nw := zw_nest) (As := [.int a1, .int 0, .int 3]) (rest := []) ⟨hx, hb, hml, hown, hts⟩ (m_X8_needRange l dC dI ca (fun z : Heap => z = H)  a1 0 3 r_a1) (cwS 3 hts gX8_ofSpring_X8_needRange rfl rfl rfl (by decide +kernel) ⟨Nat.le_of_ble_eq_true rfl, Nat.le_of_ble_eq_true rfl⟩) rfl hK hN zw_nest_ok rfl hl.1 rfl (Nat.le_of_ble_eq_true rfl) dX8_ofSpring_14 ⟨Nat.le_refl _, Nat.le_refl _⟩ hS (fun _ h => h.elim) (fun H locs hB1 oq1 hz1 hS => ?_)
  have hT : zT dC dI ca sf (ad 0) (ad2 0) H := by rw [hB1]; exact hT
  have hH : zW dC dI ca ad M H := by rw [hB1]; exact hH
  have hG : zW dC dI ca ad2 N H := by rw [hB1]; exact hG
  refine lv_aload_n hx hb dX8_ofSpring_17 rfl (lv_at hl 0 rfl) ?_
  refine z_gS (k := 0) (v := ad 0) hx hb hts hinX8 hown hK hT (by decide) rfl (hts (.fieldLink RX8 10 "Steamfield" "land" "LSteamfield$Land;") (by decide +kernel)) (fun _ h9 => h9) dX8_ofSpring_18 ?_
  refine z_grN (D := (dC, dI)) (cl := vwCl) (C := RX3) (T := TX3) (N := 15) (ci := 3) (k := 3) hx hb hts hinX3 hown hK hH zk_0 (by decide) rfl (by decide) rfl (zr_0 (k := 3) (by decide)) (hN (.fieldLinkNest RX8 118 "Steamfield$Land" "springs" "[LSteamfield$Spring;" "Steamfield") (by decide +kernel)) (fun _ h9 => h9) dX8_ofSpring_21 ?_
  refine lv_iload_n hx hb dX8_ofSpring_24 rfl (lv_at hl 1 rfl) ?_
  refine z_aq (t0 := 4) (D := (dC, dI)) (cl := vwCl) (tys := zt ca) hx hb hK hH zk_4 (by decide) (by decide) rfl (show vp_in a0 3 from (z_ix.in (z_ix.mono h_a0 (z_Ok.n13 hOk0)))) (show zr 4 (a0 : Int32).toNatClampNeg = some (70 + a0.toNatClampNeg) from zr_4 (z_ix.lt (z_ix.mono h_a0 (z_Ok.n13 hOk0)))) dX8_ofSpring_25 ?_
  refine lv_astore_n (lv' := [(3, .ref (ad (70 + a0.toNatClampNeg))), (0, .ref sf), (1, .int a0), (2, .int a1)]) hx hb dX8_ofSpring_26 rfl hl (by decide) rfl (fun ls hl => ?_)
  refine lv_iload_n hx hb dX8_ofSpring_27 rfl (lv_at hl 3 rfl) ?_
  by_cases c2 : a1 = 0
  · refine lv_tableIn (off := 28) (tgt := 56) hx hb dX8_ofSpring_28 (by rw [c2]; decide) (by rw [c2]; decide) (z_t c2 rfl) (by decide) ?_
    refine lv_aload_n hx hb dX8_ofSpring_56 rfl (lv_at hl 0 rfl) ?_
    refine z_giN (D := (dC, dI)) (cl := vwCl) (C := RX5) (T := TX5) (N := 7) (ci := 5) (k := 3) hx hb hts hinX5 hown hK hH (zk_s (z_ix.lt (z_ix.mono h_a0 (z_Ok.n13 hOk0)))) (by decide) rfl (by decide) rfl (hN (.fieldLinkNest RX8 194 "Steamfield$Spring" "flow" "I" "Steamfield") (by decide +kernel)) (fun _ h9 => h9) dX8_ofSpring_57 ?_
    refine lv_topi (fun x3 ex3 => ?_)
    have hR : x3 = rX8_ofSpring M N a0 a1 := by subst ex3; subst ex1; exact ((if_pos c2).symm)
    exact W.iret (v := x3) hx hb hr (fun t ht hW => ⟨⟨x3, (), rfl, hR, z_to (B := fun H => zT dC dI ca sf (ad 0) (ad2 0) H ∧ zW dC dI ca ad M H ∧ zW dC dI ca ad2 N H) ht ⟨hT, hH, hG⟩⟩, hS.F ht⟩) hS.2.2 dX8_ofSpring_60
  by_cases c4 : a1 = 1
  · refine lv_tableIn (off := 33) (tgt := 61) hx hb dX8_ofSpring_28 (by rw [c4]; decide) (by rw [c4]; decide) (z_t c4 rfl) (by decide) ?_
    refine lv_aload_n hx hb dX8_ofSpring_61 rfl (lv_at hl 0 rfl) ?_
    refine z_giN (D := (dC, dI)) (cl := vwCl) (C := RX5) (T := TX5) (N := 7) (ci := 5) (k := 4) hx hb hts hinX5 hown hK hH (zk_s (z_ix.lt (z_ix.mono h_a0 (z_Ok.n13 hOk0)))) (by decide) rfl (by decide) rfl (hN (.fieldLinkNest RX8 195 "Steamfield$Spring" "lacked" "I" "Steamfield") (by decide +kernel)) (fun _ h9 => h9) dX8_ofSpring_62 ?_
    refine lv_topi (fun x5 ex5 => ?_)
    have hR : x5 = rX8_ofSpring M N a0 a1 := by subst ex5; subst ex1; exact (((if_pos c4).symm).trans (if_neg c2).symm)
    exact W.iret (v := x5) hx hb hr (fun t ht hW => ⟨⟨x5, (), rfl, hR, z_to (B := fun H => zT dC dI ca sf (ad 0) (ad2 0) H ∧ zW dC dI ca ad M H ∧ zW dC dI ca ad2 N H) ht ⟨hT, hH, hG⟩⟩, hS.F ht⟩) hS.2.2 dX8_ofSpring_65
  by_cases c6 : a1 = 2
  · refine lv_tableIn (off := 38) (tgt := 66) hx hb dX8_ofSpring_28 (by rw [c6]; decide) (by rw [c6]; decide) (z_t c6 rfl) (by decide) ?_
    refine lv_aload_n hx hb dX8_ofSpring_66 rfl (lv_at hl 0 rfl) ?_
    refine z_giN (D := (dC, dI)) (cl := vwCl) (C := RX5) (T := TX5) (N := 7) (ci := 5) (k := 5) hx hb hts hinX5 hown hK hH (zk_s (z_ix.lt (z_ix.mono h_a0 (z_Ok.n13 hOk0)))) (by decide) rfl (by decide) rfl (hN (.fieldLinkNest RX8 198 "Steamfield$Spring" "flowEver" "I" "Steamfield") (by decide +kernel)) (fun _ h9 => h9) dX8_ofSpring_67 ?_
    refine lv_topi (fun x7 ex7 => ?_)
    have hR : x7 = rX8_ofSpring M N a0 a1 := by subst ex7; subst ex1; exact ((((if_pos c6).symm).trans (if_neg c4).symm).trans (if_neg c2).symm)
    exact W.iret (v := x7) hx hb hr (fun t ht hW => ⟨⟨x7, (), rfl, hR, z_to (B := fun H => zT dC dI ca sf (ad 0) (ad2 0) H ∧ zW dC dI ca ad M H ∧ zW dC dI ca ad2 N H) ht ⟨hT, hH, hG⟩⟩, hS.F ht⟩) hS.2.2 dX8_ofSpring_70
  refine lv_tableOut (tgt := 71) hx hb dX8_ofSpring_28 (z_tout3 c2 c4 c6) (by decide) ?_
  refine lv_aload_n hx hb dX8_ofSpring_71 rfl (lv_at hl 0 rfl) ?_
  refine z_giN (D := (dC, dI)) (cl := vwCl) (C := RX5) (T := TX5) (N := 7) (ci := 5) (k := 6) hx hb hts hinX5 hown hK hH (zk_s (z_ix.lt (z_ix.mono h_a0 (z_Ok.n13 hOk0)))) (by decide) rfl (by decide) rfl (hN (.fieldLinkNest RX8 199 "Steamfield$Spring" "lackedEver" "I" "Steamfield") (by decide +kernel)) (fun _ h9 => h9) dX8_ofSpring_72 ?_
  refine lv_topi (fun x8 ex8 => ?_)
  have hR : x8 = rX8_ofSpring M N a0 a1 := by subst ex8; subst ex1; exact ((((if_neg c6).symm).trans (if_neg c4).symm).trans (if_neg c2).symm)
  exact W.iret (v := x8) hx hb hr (fun t ht hW => ⟨⟨x8, (), rfl, hR, z_to (B := fun H => zT dC dI ca sf (ad 0) (ad2 0) H ∧ zW dC dI ca ad M H ∧ zW dC dI ca ad2 N H) ht ⟨hT, hH, hG⟩⟩, hS.F ht⟩) hS.2.2 dX8_ofSpring_75

def rX8_mass (M : zM) (N : zM) (a0 : Int32) : Int32 :=

  if a0 = 0 then (let x2 : Int32 := M 11 0; x2) else if a0 = 1 then (let x4 : Int32 := rX3_inBlocks M 0; x4) else if a0 = 2 then (let x6 : Int32 := M 5 0; x6) else if a0 = 3 then (let x8 : Int32 := M 7 3; x8) else if a0 = 4 then (let x10 : Int32 := M 7 4; x10) else if a0 = 5 then (let x12 : Int32 := M 12 0; x12) else (let x13 : Int32 := M 13 0; x13)
set_option maxHeartbeats 4000000 in
set_option maxRecDepth 100000 in
theorem m_X8_mass (l : Launch) (dC : Nat → ClassId) (dI : Nat → Nat → Nat) (ca : Nat → ClassId) (sf : Nat) (ad : Nat → Nat) (hI : z_I zd ad) (ad2 : Nat → Nat) (hI2 : z_I zd ad2) (hq : zSep sf ad ad2) (M : zM) (N : zM) (a0 : Int32) (hOk0 : z_Ok M) (r_a0 : z_rg a0 0 6) : Met l yX8_mass wsX8_mass ({ frames := 2, cells := 0, slots := 0, locals := 44 }) (z_Pc (dC, dI) vwCl (zt ca) zw_nest [.ref sf, .int a0] (fun H => zT dC dI ca sf (ad 0) (ad2 0) H ∧ zW dC dI ca ad M H ∧ zW dC dI ca ad2 N H)) (z_Qi (rX8_mass M N a0) (fun H => zT dC dI ca sf (ad 0) (ad2 0) H ∧ zW dC dI ca ad M H ∧ zW dC dI ca ad2 N H) (zA2 ad ad2)) 0 0 (zA2 ad ad2) := by
  refine Met.ofW (cc := cX8_mass) (maxL := 2) (ret := (some .int)) (by decide) rfl ?_
  intro p e s m args below meth c s₁ B9 hml hv
  obtain ⟨rfl, ⟨hT, hH, hG⟩, hK, hN⟩ := hv
  have hx := B9.exec
  have hb := B9.bytes
  have hr := B9.returns
  have hts := atoms_spec (ws := wsX8_mass) B9.pre
  have hown : s.vm.findClass RX8 = some m.cls := findClass_of_methodNamed B9.named
  have hlocks := B9.notSynchronized
  have hS : va_S (zA2 ad ad2) s.heap s.heap [] := va_S.rf
  have hOk := hOk0
  have hFx : z_Fx M M := z_Fx.rf
  have hT : zT dC dI ca sf (ad 0) (ad2 0) s.heap := hT
  have hH : zW dC dI ca ad M s.heap := hH
  have hG : zW dC dI ca ad2 N s.heap := hG
  have hinX1 : ∀ w ∈ u_ws RX1 TX1 5, w ∈ wsX8_mass := by decide +kernel
  have hinX3 : ∀ w ∈ u_ws RX3 TX3 15, w ∈ wsX8_mass := by decide +kernel
  have hinX6 : ∀ w ∈ u_ws RX6 TX6 4, w ∈ wsX8_mass := by decide +kernel
  have hinX8 : ∀ w ∈ u_ws RX8 TX8 2, w ∈ wsX8_mass := by decide +kernel
  have hl := lv_entry ([.ref sf, .int a0]) (n := 2) (Nat.le_of_ble_eq_true rfl)
  rw [lg_entry_eq]
  generalize (lg_sl ([.ref sf, .int a0]) ++ List.replicate (2 - (lg_sl ([.ref sf, .int a0])).length) Slot.unset).toArray = ls at hl ⊢
  have hl : lv_has ls 2 [(0, .ref sf), (1, .int a0)] := hl
  refine lv_iload_n hx hb dX8_mass_0 rfl (lv_at hl 1 rfl) ?_
  refine lv_iconst (v := 0) hx hb dX8_mass_1 (by decide) ?_
  refine lv_bipush (v := 6) hx hb dX8_mass_2 (by decide) ?_
  refine z_cSv (D := (dC, dI)) (cl := vwCl) (tys := zt ca) (nw := zw_nest) (As := [.int a0, .int 0, .int 6]) (rest := []) ⟨hx, hb, hml, hown, hts⟩ (m_X8_needRange l dC dI ca (fun z : Heap => z = s.heap)  a0 0 6 r_a0) (cwS 3 hts gX8_mass_X8_needRange rfl rfl rfl (by decide +kernel) ⟨Nat.le_of_ble_eq_true rfl, Nat.le_of_ble_eq_true rfl⟩) rfl hK hN zw_nest_ok rfl hl.1 rfl (Nat.le_of_ble_eq_true rfl) dX8_mass_4 ⟨Nat.le_refl _, Nat.le_refl _⟩ hS (fun _ h => h.elim) (fun H locs hB1 oq1 hz1 hS => ?_)
  have hT : zT dC dI ca sf (ad 0) (ad2 0) H := by rw [hB1]; exact hT
  have hH : zW dC dI ca ad M H := by rw [hB1]; exact hH
  have hG : zW dC dI ca ad2 N H := by rw [hB1]; exact hG
  refine lv_iload_n hx hb dX8_mass_7 rfl (lv_at hl 1 rfl) ?_
  by_cases c1 : a0 = 0
  · refine lv_tableIn (off := 40) (tgt := 48) hx hb dX8_mass_8 (by rw [c1]; decide) (by rw [c1]; decide) (z_t c1 rfl) (by decide) ?_
    refine lv_aload_n hx hb dX8_mass_48 rfl (lv_at hl 0 rfl) ?_
    refine z_gS (k := 0) (v := ad 0) hx hb hts hinX8 hown hK hT (by decide) rfl (hts (.fieldLink RX8 10 "Steamfield" "land" "LSteamfield$Land;") (by decide +kernel)) (fun _ h9 => h9) dX8_mass_49 ?_
    refine z_grN (D := (dC, dI)) (cl := vwCl) (C := RX3) (T := TX3) (N := 15) (ci := 3) (k := 6) hx hb hts hinX3 hown hK hH zk_0 (by decide) rfl (by decide) rfl (zr_0 (k := 6) (by decide)) (hN (.fieldLinkNest RX8 58 "Steamfield$Land" "books" "LSteamfield$Books;" "Steamfield") (by decide +kernel)) (fun _ h9 => h9) dX8_mass_52 ?_
    refine z_grN (D := (dC, dI)) (cl := vwCl) (C := RX1) (T := TX1) (N := 5) (ci := 1) (k := 0) hx hb hts hinX1 hown hK hH zk_7 (by decide) rfl (by decide) rfl (zr_7 (k := 0) (by decide)) (hN (.fieldLinkNest RX8 62 "Steamfield$Books" "told" "LSteamfield$Water;" "Steamfield") (by decide +kernel)) (fun _ h9 => h9) dX8_mass_55 ?_
    refine z_giN (D := (dC, dI)) (cl := vwCl) (C := RX6) (T := TX6) (N := 4) (ci := 6) (k := 0) hx hb hts hinX6 hown hK hH zk_11 (by decide) rfl (by decide) rfl (hN (.fieldLinkNest RX8 47 "Steamfield$Water" "mass" "I" "Steamfield") (by decide +kernel)) (fun _ h9 => h9) dX8_mass_58 ?_
    refine lv_topi (fun x2 ex2 => ?_)
    have hR : x2 = rX8_mass M N a0 := by subst ex2; exact ((if_pos c1).symm)
    exact W.iret (v := x2) hx hb hr (fun t ht hW => ⟨⟨x2, (), rfl, hR, z_to (B := fun H => zT dC dI ca sf (ad 0) (ad2 0) H ∧ zW dC dI ca ad M H ∧ zW dC dI ca ad2 N H) ht ⟨hT, hH, hG⟩⟩, hS.F ht⟩) hS.2.2 dX8_mass_61
  by_cases c3 : a0 = 1
  · refine lv_tableIn (off := 54) (tgt := 62) hx hb dX8_mass_8 (by rw [c3]; decide) (by rw [c3]; decide) (z_t c3 rfl) (by decide) ?_
    refine lv_aload_n hx hb dX8_mass_62 rfl (lv_at hl 0 rfl) ?_
    refine z_gS (k := 0) (v := ad 0) hx hb hts hinX8 hown hK hT (by decide) rfl (hts (.fieldLink RX8 10 "Steamfield" "land" "LSteamfield$Land;") (by decide +kernel)) (fun _ h9 => h9) dX8_mass_63 ?_
    refine lv_iconst (v := 0) hx hb dX8_mass_66 (by decide) ?_
    refine z_cVi (D := (dC, dI)) (cl := vwCl) (tys := zt ca) (nw := zw_nest) (C := RX3) (As := [.int 0]) (rest := []) ⟨hx, hb, hml, hown, hts⟩ (m_X3_inBlocks l dC dI ca ad hI M 0 hOk) (cwV 1 hts gX8_mass_X3_inBlocks rfl rfl rfl (by decide +kernel) ⟨Nat.le_of_ble_eq_true rfl, Nat.le_of_ble_eq_true rfl⟩) (z_recv (ci := 3) (i := 0) hK hH zk_0 (by decide) rfl) hH hK hN zw_nest_ok rfl hl.1 rfl (Nat.le_of_ble_eq_true rfl) dX8_mass_67 ⟨Nat.le_refl _, Nat.le_refl _⟩ hS (fun _ h => Or.inl h) (fun H locs hB1 oq1 hz1 hS => ?_)
    have hT := zT_c hT oq1 hq.a1
    have hG := zW_c hG oq1 hq.x
    have hH := hB1
    refine lv_topi (fun x4 ex4 => ?_)
    have hR : x4 = rX8_mass M N a0 := by subst ex4; exact (((if_pos c3).symm).trans (if_neg c1).symm)
    exact W.iret (v := x4) hx hb hr (fun t ht hW => ⟨⟨x4, (), rfl, hR, z_to (B := fun H => zT dC dI ca sf (ad 0) (ad2 0) H ∧ zW dC dI ca ad M H ∧ zW dC dI ca ad2 N H) ht ⟨hT, hH, hG⟩⟩, hS.F ht⟩) hS.2.2 dX8_mass_70
  by_cases c5 : a0 = 2
  · refine lv_tableIn (off := 63) (tgt := 71) hx hb dX8_mass_8 (by rw [c5]; decide) (by rw [c5]; decide) (z_t c5 rfl) (by decide) ?_
    refine lv_aload_n hx hb dX8_mass_71 rfl (lv_at hl 0 rfl) ?_
    refine z_gS (k := 0) (v := ad 0) hx hb hts hinX8 hown hK hT (by decide) rfl (hts (.fieldLink RX8 10 "Steamfield" "land" "LSteamfield$Land;") (by decide +kernel)) (fun _ h9 => h9) dX8_mass_72 ?_
    refine z_grN (D := (dC, dI)) (cl := vwCl) (C := RX3) (T := TX3) (N := 15) (ci := 3) (k := 4) hx hb hts hinX3 hown hK hH zk_0 (by decide) rfl (by decide) rfl (zr_0 (k := 4) (by decide)) (hN (.fieldLinkNest RX8 203 "Steamfield$Land" "pond" "LSteamfield$Water;" "Steamfield") (by decide +kernel)) (fun _ h9 => h9) dX8_mass_75 ?_
    refine z_giN (D := (dC, dI)) (cl := vwCl) (C := RX6) (T := TX6) (N := 4) (ci := 6) (k := 0) hx hb hts hinX6 hown hK hH zk_5 (by decide) rfl (by decide) rfl (hN (.fieldLinkNest RX8 47 "Steamfield$Water" "mass" "I" "Steamfield") (by decide +kernel)) (fun _ h9 => h9) dX8_mass_78 ?_
    refine lv_topi (fun x6 ex6 => ?_)
    have hR : x6 = rX8_mass M N a0 := by subst ex6; exact ((((if_pos c5).symm).trans (if_neg c3).symm).trans (if_neg c1).symm)
    exact W.iret (v := x6) hx hb hr (fun t ht hW => ⟨⟨x6, (), rfl, hR, z_to (B := fun H => zT dC dI ca sf (ad 0) (ad2 0) H ∧ zW dC dI ca ad M H ∧ zW dC dI ca ad2 N H) ht ⟨hT, hH, hG⟩⟩, hS.F ht⟩) hS.2.2 dX8_mass_81
  by_cases c7 : a0 = 3
  · refine lv_tableIn (off := 74) (tgt := 82) hx hb dX8_mass_8 (by rw [c7]; decide) (by rw [c7]; decide) (z_t c7 rfl) (by decide) ?_
    refine lv_aload_n hx hb dX8_mass_82 rfl (lv_at hl 0 rfl) ?_
    refine z_gS (k := 0) (v := ad 0) hx hb hts hinX8 hown hK hT (by decide) rfl (hts (.fieldLink RX8 10 "Steamfield" "land" "LSteamfield$Land;") (by decide +kernel)) (fun _ h9 => h9) dX8_mass_83 ?_
    refine z_grN (D := (dC, dI)) (cl := vwCl) (C := RX3) (T := TX3) (N := 15) (ci := 3) (k := 6) hx hb hts hinX3 hown hK hH zk_0 (by decide) rfl (by decide) rfl (zr_0 (k := 6) (by decide)) (hN (.fieldLinkNest RX8 58 "Steamfield$Land" "books" "LSteamfield$Books;" "Steamfield") (by decide +kernel)) (fun _ h9 => h9) dX8_mass_86 ?_
    refine z_giN (D := (dC, dI)) (cl := vwCl) (C := RX1) (T := TX1) (N := 5) (ci := 1) (k := 3) hx hb hts hinX1 hown hK hH zk_7 (by decide) rfl (by decide) rfl (hN (.fieldLinkNest RX8 212 "Steamfield$Books" "used" "I" "Steamfield") (by decide +kernel)) (fun _ h9 => h9) dX8_mass_89 ?_
    refine lv_topi (fun x8 ex8 => ?_)
    have hR : x8 = rX8_mass M N a0 := by subst ex8; exact (((((if_pos c7).symm).trans (if_neg c5).symm).trans (if_neg c3).symm).trans (if_neg c1).symm)
    exact W.iret (v := x8) hx hb hr (fun t ht hW => ⟨⟨x8, (), rfl, hR, z_to (B := fun H => zT dC dI ca sf (ad 0) (ad2 0) H ∧ zW dC dI ca ad M H ∧ zW dC dI ca ad2 N H) ht ⟨hT, hH, hG⟩⟩, hS.F ht⟩) hS.2.2 dX8_mass_92
  by_cases c9 : a0 = 4
  · refine lv_tableIn (off := 85) (tgt := 93) hx hb dX8_mass_8 (by rw [c9]; decide) (by rw [c9]; decide) (z_t c9 rfl) (by decide) ?_
    refine lv_aload_n hx hb dX8_mass_93 rfl (lv_at hl 0 rfl) ?_
    refine z_gS (k := 0) (v := ad 0) hx hb hts hinX8 hown hK hT (by decide) rfl (hts (.fieldLink RX8 10 "Steamfield" "land" "LSteamfield$Land;") (by decide +kernel)) (fun _ h9 => h9) dX8_mass_94 ?_
    refine z_grN (D := (dC, dI)) (cl := vwCl) (C := RX3) (T := TX3) (N := 15) (ci := 3) (k := 6) hx hb hts hinX3 hown hK hH zk_0 (by decide) rfl (by decide) rfl (zr_0 (k := 6) (by decide)) (hN (.fieldLinkNest RX8 58 "Steamfield$Land" "books" "LSteamfield$Books;" "Steamfield") (by decide +kernel)) (fun _ h9 => h9) dX8_mass_97 ?_
    refine z_giN (D := (dC, dI)) (cl := vwCl) (C := RX1) (T := TX1) (N := 5) (ci := 1) (k := 4) hx hb hts hinX1 hown hK hH zk_7 (by decide) rfl (by decide) rfl (hN (.fieldLinkNest RX8 215 "Steamfield$Books" "vented" "I" "Steamfield") (by decide +kernel)) (fun _ h9 => h9) dX8_mass_100 ?_
    refine lv_topi (fun x10 ex10 => ?_)
    have hR : x10 = rX8_mass M N a0 := by subst ex10; exact ((((((if_pos c9).symm).trans (if_neg c7).symm).trans (if_neg c5).symm).trans (if_neg c3).symm).trans (if_neg c1).symm)
    exact W.iret (v := x10) hx hb hr (fun t ht hW => ⟨⟨x10, (), rfl, hR, z_to (B := fun H => zT dC dI ca sf (ad 0) (ad2 0) H ∧ zW dC dI ca ad M H ∧ zW dC dI ca ad2 N H) ht ⟨hT, hH, hG⟩⟩, hS.F ht⟩) hS.2.2 dX8_mass_103
  by_cases c11 : a0 = 5
  · refine lv_tableIn (off := 96) (tgt := 104) hx hb dX8_mass_8 (by rw [c11]; decide) (by rw [c11]; decide) (z_t c11 rfl) (by decide) ?_
    refine lv_aload_n hx hb dX8_mass_104 rfl (lv_at hl 0 rfl) ?_
    refine z_gS (k := 0) (v := ad 0) hx hb hts hinX8 hown hK hT (by decide) rfl (hts (.fieldLink RX8 10 "Steamfield" "land" "LSteamfield$Land;") (by decide +kernel)) (fun _ h9 => h9) dX8_mass_105 ?_
    refine z_grN (D := (dC, dI)) (cl := vwCl) (C := RX3) (T := TX3) (N := 15) (ci := 3) (k := 6) hx hb hts hinX3 hown hK hH zk_0 (by decide) rfl (by decide) rfl (zr_0 (k := 6) (by decide)) (hN (.fieldLinkNest RX8 58 "Steamfield$Land" "books" "LSteamfield$Books;" "Steamfield") (by decide +kernel)) (fun _ h9 => h9) dX8_mass_108 ?_
    refine z_grN (D := (dC, dI)) (cl := vwCl) (C := RX1) (T := TX1) (N := 5) (ci := 1) (k := 1) hx hb hts hinX1 hown hK hH zk_7 (by decide) rfl (by decide) rfl (zr_7 (k := 1) (by decide)) (hN (.fieldLinkNest RX8 218 "Steamfield$Books" "spilled" "LSteamfield$Water;" "Steamfield") (by decide +kernel)) (fun _ h9 => h9) dX8_mass_111 ?_
    refine z_giN (D := (dC, dI)) (cl := vwCl) (C := RX6) (T := TX6) (N := 4) (ci := 6) (k := 0) hx hb hts hinX6 hown hK hH zk_12 (by decide) rfl (by decide) rfl (hN (.fieldLinkNest RX8 47 "Steamfield$Water" "mass" "I" "Steamfield") (by decide +kernel)) (fun _ h9 => h9) dX8_mass_114 ?_
    refine lv_topi (fun x12 ex12 => ?_)
    have hR : x12 = rX8_mass M N a0 := by subst ex12; exact (((((((if_pos c11).symm).trans (if_neg c9).symm).trans (if_neg c7).symm).trans (if_neg c5).symm).trans (if_neg c3).symm).trans (if_neg c1).symm)
    exact W.iret (v := x12) hx hb hr (fun t ht hW => ⟨⟨x12, (), rfl, hR, z_to (B := fun H => zT dC dI ca sf (ad 0) (ad2 0) H ∧ zW dC dI ca ad M H ∧ zW dC dI ca ad2 N H) ht ⟨hT, hH, hG⟩⟩, hS.F ht⟩) hS.2.2 dX8_mass_117
  refine lv_tableOut (tgt := 118) hx hb dX8_mass_8 (z_tout6 c1 c3 c5 c7 c9 c11) (by decide) ?_
  refine lv_aload_n hx hb dX8_mass_118 rfl (lv_at hl 0 rfl) ?_
  refine z_gS (k := 0) (v := ad 0) hx hb hts hinX8 hown hK hT (by decide) rfl (hts (.fieldLink RX8 10 "Steamfield" "land" "LSteamfield$Land;") (by decide +kernel)) (fun _ h9 => h9) dX8_mass_119 ?_
  refine z_grN (D := (dC, dI)) (cl := vwCl) (C := RX3) (T := TX3) (N := 15) (ci := 3) (k := 6) hx hb hts hinX3 hown hK hH zk_0 (by decide) rfl (by decide) rfl (zr_0 (k := 6) (by decide)) (hN (.fieldLinkNest RX8 58 "Steamfield$Land" "books" "LSteamfield$Books;" "Steamfield") (by decide +kernel)) (fun _ h9 => h9) dX8_mass_122 ?_
  refine z_grN (D := (dC, dI)) (cl := vwCl) (C := RX1) (T := TX1) (N := 5) (ci := 1) (k := 2) hx hb hts hinX1 hown hK hH zk_7 (by decide) rfl (by decide) rfl (zr_7 (k := 2) (by decide)) (hN (.fieldLinkNest RX8 221 "Steamfield$Books" "sprung" "LSteamfield$Water;" "Steamfield") (by decide +kernel)) (fun _ h9 => h9) dX8_mass_125 ?_
  refine z_giN (D := (dC, dI)) (cl := vwCl) (C := RX6) (T := TX6) (N := 4) (ci := 6) (k := 0) hx hb hts hinX6 hown hK hH zk_13 (by decide) rfl (by decide) rfl (hN (.fieldLinkNest RX8 47 "Steamfield$Water" "mass" "I" "Steamfield") (by decide +kernel)) (fun _ h9 => h9) dX8_mass_128 ?_
  refine lv_topi (fun x13 ex13 => ?_)
  have hR : x13 = rX8_mass M N a0 := by subst ex13; exact (((((((if_neg c11).symm).trans (if_neg c9).symm).trans (if_neg c7).symm).trans (if_neg c5).symm).trans (if_neg c3).symm).trans (if_neg c1).symm)
  exact W.iret (v := x13) hx hb hr (fun t ht hW => ⟨⟨x13, (), rfl, hR, z_to (B := fun H => zT dC dI ca sf (ad 0) (ad2 0) H ∧ zW dC dI ca ad M H ∧ zW dC dI ca ad2 N H) ht ⟨hT, hH, hG⟩⟩, hS.F ht⟩) hS.2.2 dX8_mass_131

