def fX8_block (M : zM) (N : zM) (a0 : Int32) (a1 : Int32) (a2 : Int32) (a3 : Int32) (a4 : Int32) : zM :=
  let x1 : Int32 := M 0 10
  let x2 : Int32 := M 0 10
  let M3 : zM := zu M (20 + x2.toNatClampNeg) 1 a0
  let M4 : zM := zu M3 (20 + x2.toNatClampNeg) 2 a1
  let M5 : zM := zu M4 (30 + x2.toNatClampNeg) 0 a2
  let x6 : Int32 := a0 + a2
  let x7 : Int32 := a3 * x6
  let M8 : zM := zu M5 (30 + x2.toNatClampNeg) 1 x7
  let M9 : zM := zu M8 (30 + x2.toNatClampNeg) 2 a4
  let M10 : zM := fX6_add M9 11 (30 + x2.toNatClampNeg)
  let x11 : Int32 := x2 + 1
  let M12 : zM := zu M10 0 10 x11
  M12
def rX8_block (M : zM) (N : zM) (a0 : Int32) (a1 : Int32) (a2 : Int32) (a3 : Int32) (a4 : Int32) : Int32 :=
  let x1 : Int32 := M 0 10
  let x2 : Int32 := M 0 10
  let M3 : zM := zu M (20 + x2.toNatClampNeg) 1 a0
  let M4 : zM := zu M3 (20 + x2.toNatClampNeg) 2 a1
  let M5 : zM := zu M4 (30 + x2.toNatClampNeg) 0 a2
  let x6 : Int32 := a0 + a2
  let x7 : Int32 := a3 * x6
  let M8 : zM := zu M5 (30 + x2.toNatClampNeg) 1 x7
  let M9 : zM := zu M8 (30 + x2.toNatClampNeg) 2 a4
  let M10 : zM := fX6_add M9 11 (30 + x2.toNatClampNeg)
  let x11 : Int32 := x2 + 1
  let M12 : zM := zu M10 0 10 x11
  x2
set_option maxHeartbeats 4000000 in
set_option maxRecDepth 100000 in
theorem m_X8_block (l : Launch) (dC : Nat → ClassId) (dI : Nat → Nat → Nat) (ca : Nat → ClassId) (sf : Nat) (ad : Nat → Nat) (hI : z_I zd ad) (ad2 : Nat → Nat) (hI2 : z_I zd ad2) (hq : zSep sf ad ad2) (M : zM) (N : zM) (a0 : Int32) (a1 : Int32) (a2 : Int32) (a3 : Int32) (a4 : Int32) (hOk0 : z_Ok M) (r_a0 : z_rg a0 10 99) (r_a1 : z_rg a1 0 1) (r_a2 : z_rg a2 0 2000) (r_a3 : z_rg a3 0 400) (r_a4 : z_rg a4 0 9999) (h_room : zc10 M < 8) : Met l yX8_block wsX8_block ({ frames := 1, cells := 0, slots := 0, locals := 22 }) (z_Pc (dC, dI) vwCl (zt ca) zw_nest [.ref sf, .int a0, .int a1, .int a2, .int a3, .int a4] (fun H => zT dC dI ca sf (ad 0) (ad2 0) H ∧ zW dC dI ca ad M H ∧ zW dC dI ca ad2 N H)) (z_Qi (rX8_block M N a0 a1 a2 a3 a4) (fun H => zT dC dI ca sf (ad 0) (ad2 0) H ∧ zW dC dI ca ad (fX8_block M N a0 a1 a2 a3 a4) H ∧ zW dC dI ca ad2 N H) (zA2 ad ad2)) 0 0 (zA2 ad ad2) := by
  refine Met.ofW (cc := cX8_block) (maxL := 8) (ret := (some .int)) (by decide) rfl ?_
  intro p e s m args below meth c s₁ B9 hml hv
  obtain ⟨rfl, ⟨hT, hH, hG⟩, hK, hN⟩ := hv
  have hx := B9.exec
  have hb := B9.bytes
  have hr := B9.returns
  have hts := atoms_spec (ws := wsX8_block) B9.pre
  have hown : s.vm.findClass RX8 = some m.cls := findClass_of_methodNamed B9.named
  have hlocks := B9.notSynchronized
  have hS : va_S (zA2 ad ad2) s.heap s.heap [] := va_S.rf
  have hOk := hOk0
  have hFx : z_Fx M M := z_Fx.rf
  have hT : zT dC dI ca sf (ad 0) (ad2 0) s.heap := hT
  have hH : zW dC dI ca ad M s.heap := hH
  have hG : zW dC dI ca ad2 N s.heap := hG
  have hinX0 : ∀ w ∈ u_ws RX0 TX0 3, w ∈ wsX8_block := by decide +kernel
  have hinX1 : ∀ w ∈ u_ws RX1 TX1 5, w ∈ wsX8_block := by decide +kernel
  have hinX3 : ∀ w ∈ u_ws RX3 TX3 15, w ∈ wsX8_block := by decide +kernel
  have hinX6 : ∀ w ∈ u_ws RX6 TX6 4, w ∈ wsX8_block := by decide +kernel
  have hinX8 : ∀ w ∈ u_ws RX8 TX8 2, w ∈ wsX8_block := by decide +kernel
  have hl := lv_entry ([.ref sf, .int a0, .int a1, .int a2, .int a3, .int a4]) (n := 8) (Nat.le_of_ble_eq_true rfl)
  rw [lg_entry_eq]
  generalize (lg_sl ([.ref sf, .int a0, .int a1, .int a2, .int a3, .int a4]) ++ List.replicate (8 - (lg_sl ([.ref sf, .int a0, .int a1, .int a2, .int a3, .int a4])).length) Slot.unset).toArray = ls at hl ⊢
  have hl : lv_has ls 8 [(0, .ref sf), (1, .int a0), (2, .int a1), (3, .int a2), (4, .int a3), (5, .int a4)] := hl
  refine lv_iload_n hx hb dX8_block_0 rfl (lv_at hl 1 rfl) ?_
  refine lv_bipush (v := 10) hx hb dX8_block_1 (by decide) ?_
  refine lv_bipush (v := 99) hx hb dX8_block_3 (by decide) ?_
  refine z_cSv (D := (dC, dI)) (cl := vwCl) (tys := zt ca) (nw := zw_nest) (As := [.int a0, .int 10, .int 99]) (rest := []) ⟨hx, hb, hml, hown, hts⟩ (m_X8_needRange l dC dI ca (fun z : Heap => z = s.heap)  a0 10 99 r_a0) (cwS 3 hts gX8_block_X8_needRange rfl rfl rfl (by decide +kernel) ⟨Nat.le_of_ble_eq_true rfl, Nat.le_of_ble_eq_true rfl⟩) rfl hK hN zw_nest_ok rfl hl.1 rfl (Nat.le_of_ble_eq_true rfl) dX8_block_5 ⟨Nat.le_refl _, Nat.le_refl _⟩ hS (fun _ h => h.elim) (fun H locs hB1 oq1 hz1 hS => ?_)
  have hT : zT dC dI ca sf (ad 0) (ad2 0) H := by rw [hB1]; exact hT
  have hH : zW dC dI ca ad M H := by rw [hB1]; exact hH
  have hG : zW dC dI ca ad2 N H := by rw [hB1]; exact hG
  refine lv_iload_n hx hb dX8_block_8 rfl (lv_at hl 2 rfl) ?_
  refine lv_iconst (v := 0) hx hb dX8_block_9 (by decide) ?_
  refine lv_iconst (v := 1) hx hb dX8_block_10 (by decide) ?_
  refine z_cSv (D := (dC, dI)) (cl := vwCl) (tys := zt ca) (nw := zw_nest) (As := [.int a1, .int 0, .int 1]) (rest := []) ⟨hx, hb, hml, hown, hts⟩ (m_X8_needRange l dC dI ca (fun z : Heap => z = H)  a1 0 1 r_a1) (cwS 3 hts gX8_block_X8_needRange rfl rfl rfl (by decide +kernel) ⟨Nat.le_of_ble_eq_true rfl, Nat.le_of_ble_eq_true rfl⟩) rfl hK hN zw_nest_ok rfl hl.1 rfl (Nat.le_of_ble_eq_true rfl) dX8_block_11 ⟨Nat.le_refl _, Nat.le_refl _⟩ hS (fun _ h => h.elim) (fun H locs hB1 oq1 hz1 hS => ?_)
  have hT : zT dC dI ca sf (ad 0) (ad2 0) H := by rw [hB1]; exact hT
  have hH : zW dC dI ca ad M H := by rw [hB1]; exact hH
  have hG : zW dC dI ca ad2 N H := by rw [hB1]; exact hG
  refine lv_iload_n hx hb dX8_block_14 rfl (lv_at hl 3 rfl) ?_
  refine lv_iconst (v := 0) hx hb dX8_block_15 (by decide) ?_
  refine lv_sipush (v := 2000) hx hb dX8_block_16 (by decide) ?_
  refine z_cSv (D := (dC, dI)) (cl := vwCl) (tys := zt ca) (nw := zw_nest) (As := [.int a2, .int 0, .int 2000]) (rest := []) ⟨hx, hb, hml, hown, hts⟩ (m_X8_needRange l dC dI ca (fun z : Heap => z = H)  a2 0 2000 r_a2) (cwS 3 hts gX8_block_X8_needRange rfl rfl rfl (by decide +kernel) ⟨Nat.le_of_ble_eq_true rfl, Nat.le_of_ble_eq_true rfl⟩) rfl hK hN zw_nest_ok rfl hl.1 rfl (Nat.le_of_ble_eq_true rfl) dX8_block_19 ⟨Nat.le_refl _, Nat.le_refl _⟩ hS (fun _ h => h.elim) (fun H locs hB1 oq1 hz1 hS => ?_)
  have hT : zT dC dI ca sf (ad 0) (ad2 0) H := by rw [hB1]; exact hT
  have hH : zW dC dI ca ad M H := by rw [hB1]; exact hH
  have hG : zW dC dI ca ad2 N H := by rw [hB1]; exact hG
  refine lv_iload hx hb dX8_block_22 (lv_at hl 4 rfl) ?_
  refine lv_iconst (v := 0) hx hb dX8_block_24 (by decide) ?_
  refine lv_sipush (v := 400) hx hb dX8_block_25 (by decide) ?_
  refine z_cSv (D := (dC, dI)) (cl := vwCl) (tys := zt ca) (nw := zw_nest) (As := [.int a3, .int 0, .int 400]) (rest := []) ⟨hx, hb, hml, hown, hts⟩ (m_X8_needRange l dC dI ca (fun z : Heap => z = H)  a3 0 400 r_a3) (cwS 3 hts gX8_block_X8_needRange rfl rfl rfl (by decide +kernel) ⟨Nat.le_of_ble_eq_true rfl, Nat.le_of_ble_eq_true rfl⟩) rfl hK hN zw_nest_ok rfl hl.1 rfl (Nat.le_of_ble_eq_true rfl) dX8_block_28 ⟨Nat.le_refl _, Nat.le_refl _⟩ hS (fun _ h => h.elim) (fun H locs hB1 oq1 hz1 hS => ?_)
  have hT : zT dC dI ca sf (ad 0) (ad2 0) H := by rw [hB1]; exact hT
  have hH : zW dC dI ca ad M H := by rw [hB1]; exact hH
  have hG : zW dC dI ca ad2 N H := by rw [hB1]; exact hG
  refine lv_iload hx hb dX8_block_31 (lv_at hl 5 rfl) ?_
  refine lv_iconst (v := 0) hx hb dX8_block_33 (by decide) ?_
  refine lv_sipush (v := 9999) hx hb dX8_block_34 (by decide) ?_
  refine z_cSv (D := (dC, dI)) (cl := vwCl) (tys := zt ca) (nw := zw_nest) (As := [.int a4, .int 0, .int 9999]) (rest := []) ⟨hx, hb, hml, hown, hts⟩ (m_X8_needRange l dC dI ca (fun z : Heap => z = H)  a4 0 9999 r_a4) (cwS 3 hts gX8_block_X8_needRange rfl rfl rfl (by decide +kernel) ⟨Nat.le_of_ble_eq_true rfl, Nat.le_of_ble_eq_true rfl⟩) rfl hK hN zw_nest_ok rfl hl.1 rfl (Nat.le_of_ble_eq_true rfl) dX8_block_37 ⟨Nat.le_refl _, Nat.le_refl _⟩ hS (fun _ h => h.elim) (fun H locs hB1 oq1 hz1 hS => ?_)
  have hT : zT dC dI ca sf (ad 0) (ad2 0) H := by rw [hB1]; exact hT
  have hH : zW dC dI ca ad M H := by rw [hB1]; exact hH
  have hG : zW dC dI ca ad2 N H := by rw [hB1]; exact hG
  refine lv_aload_n hx hb dX8_block_40 rfl (lv_at hl 0 rfl) ?_
  refine z_gS (k := 0) (v := ad 0) hx hb hts hinX8 hown hK hT (by decide) rfl (hts (.fieldLink RX8 10 "Steamfield" "land" "LSteamfield$Land;") (by decide +kernel)) (fun _ h9 => h9) dX8_block_41 ?_
  refine z_giN (D := (dC, dI)) (cl := vwCl) (C := RX3) (T := TX3) (N := 15) (ci := 3) (k := 10) hx hb hts hinX3 hown hK hH zk_0 (by decide) rfl (by decide) rfl (hN (.fieldLinkNest RX8 23 "Steamfield$Land" "blockCount" "I" "Steamfield") (by decide +kernel)) (fun _ h9 => h9) dX8_block_44 ?_
  refine lv_topi (fun x1 ex1 => ?_)
  have hx1 : x1 = nI (zc10 M) := by rw [ex1, hFx.c10]; exact z_Ok.c10 hOk0
  refine lv_bipush (v := 8) hx hb dX8_block_47 (by decide) ?_
  refine z_cSv (D := (dC, dI)) (cl := vwCl) (tys := zt ca) (nw := zw_nest) (As := [.int x1, .int 8]) (rest := []) ⟨hx, hb, hml, hown, hts⟩ (m_X8_needRoom l dC dI ca (fun z : Heap => z = H)  x1 8 (z_rm_of h_room hx1 rfl (by decide))) (cwS 2 hts gX8_block_X8_needRoom rfl rfl rfl (by decide +kernel) ⟨Nat.le_of_ble_eq_true rfl, Nat.le_of_ble_eq_true rfl⟩) rfl hK hN zw_nest_ok rfl hl.1 rfl (Nat.le_of_ble_eq_true rfl) dX8_block_49 ⟨Nat.le_refl _, Nat.le_refl _⟩ hS (fun _ h => h.elim) (fun H locs hB1 oq1 hz1 hS => ?_)
  have hT : zT dC dI ca sf (ad 0) (ad2 0) H := by rw [hB1]; exact hT
  have hH : zW dC dI ca ad M H := by rw [hB1]; exact hH
  have hG : zW dC dI ca ad2 N H := by rw [hB1]; exact hG
  refine lv_aload_n hx hb dX8_block_52 rfl (lv_at hl 0 rfl) ?_
  refine z_gS (k := 0) (v := ad 0) hx hb hts hinX8 hown hK hT (by decide) rfl (hts (.fieldLink RX8 10 "Steamfield" "land" "LSteamfield$Land;") (by decide +kernel)) (fun _ h9 => h9) dX8_block_53 ?_
  refine z_giN (D := (dC, dI)) (cl := vwCl) (C := RX3) (T := TX3) (N := 15) (ci := 3) (k := 10) hx hb hts hinX3 hown hK hH zk_0 (by decide) rfl (by decide) rfl (hN (.fieldLinkNest RX8 23 "Steamfield$Land" "blockCount" "I" "Steamfield") (by decide +kernel)) (fun _ h9 => h9) dX8_block_56 ?_
  refine lv_topi (fun x2 ex2 => ?_)
  have hx2 : x2 = nI (zc10 M) := by rw [ex2, hFx.c10]; exact z_Ok.c10 hOk0
  refine lv_istore (lv' := [(6, .int x2), (0, .ref sf), (1, .int a0), (2, .int a1), (3, .int a2), (4, .int a3), (5, .int a4)]) hx hb dX8_block_59 hl (by decide) rfl (fun ls hl => ?_)
  refine lv_aload_n hx hb dX8_block_61 rfl (lv_at hl 1 rfl) ?_
  refine z_gS (k := 0) (v := ad 0) hx hb hts hinX8 hown hK hT (by decide) rfl (hts (.fieldLink RX8 10 "Steamfield" "land" "LSteamfield$Land;") (by decide +kernel)) (fun _ h9 => h9) dX8_block_62 ?_
  refine z_grN (D := (dC, dI)) (cl := vwCl) (C := RX3) (T := TX3) (N := 15) (ci := 3) (k := 0) hx hb hts hinX3 hown hK hH zk_0 (by decide) rfl (by decide) rfl (zr_0 (k := 0) (by decide)) (hN (.fieldLinkNest RX8 31 "Steamfield$Land" "blocks" "[LSteamfield$Block;" "Steamfield") (by decide +kernel)) (fun _ h9 => h9) dX8_block_65 ?_
  refine lv_iload hx hb dX8_block_68 (lv_at hl 0 rfl) ?_
  refine z_aq (t0 := 1) (D := (dC, dI)) (cl := vwCl) (tys := zt ca) hx hb hK hH zk_1 (by decide) (by decide) rfl (show vp_in x2 8 from (z_ix.in (⟨_, h_room, Nat.lt_trans h_room (by decide), hx2⟩ : z_ix x2 8))) (show zr 1 (x2 : Int32).toNatClampNeg = some (20 + x2.toNatClampNeg) from zr_1 (z_ix.lt (⟨_, h_room, Nat.lt_trans h_room (by decide), hx2⟩ : z_ix x2 8))) dX8_block_70 ?_
  refine lv_astore (lv' := [(7, .ref (ad (20 + x2.toNatClampNeg))), (6, .int x2), (0, .ref sf), (1, .int a0), (2, .int a1), (3, .int a2), (4, .int a3), (5, .int a4)]) hx hb dX8_block_71 hl (by decide) rfl (fun ls hl => ?_)
  refine lv_aload hx hb dX8_block_73 (lv_at hl 0 rfl) ?_
  refine lv_iload_n hx hb dX8_block_75 rfl (lv_at hl 3 rfl) ?_
  refine zp_iN (D := (dC, dI)) (cl := vwCl) (C := RX0) (T := TX0) (N := 3) (ci := 0) (k := 1) (ty := .int) hx hb hts hinX0 tyX0 tyX0_ok nmX0 hown hK hH hI hS (fun _ h => Or.inl h) (zk_b (z_ix.lt (⟨_, h_room, Nat.lt_trans h_room (by decide), hx2⟩ : z_ix x2 8))) (by decide) rfl (by decide) rfl (hN (.fieldLinkNest RX8 35 "Steamfield$Block" "volume" "I" "Steamfield") (by decide +kernel)) (fun _ h9 => h9) rfl (by decide +kernel) rfl rfl dX8_block_76 (fun H locs hH oq hS => ?_)
  have hT := zT_u hT oq (hq.2.1 _ (zk_lt (zk_b (z_ix.lt (⟨_, h_room, Nat.lt_trans h_room (by decide), hx2⟩ : z_ix x2 8))) (by decide)))
  have hG := zW_u hG oq hq.x (zk_lt (zk_b (z_ix.lt (⟨_, h_room, Nat.lt_trans h_room (by decide), hx2⟩ : z_ix x2 8))) (by decide))
  obtain ⟨M3, hM3⟩ : ∃ z : zM, z = zu M (20 + x2.toNatClampNeg) 1 a0 := ⟨_, rfl⟩
  rw [← hM3] at hH
  refine lv_aload hx hb dX8_block_79 (lv_at hl 0 rfl) ?_
  refine lv_iload_n hx hb dX8_block_81 rfl (lv_at hl 4 rfl) ?_
  refine zp_iN (D := (dC, dI)) (cl := vwCl) (C := RX0) (T := TX0) (N := 3) (ci := 0) (k := 2) (ty := .int) hx hb hts hinX0 tyX0 tyX0_ok nmX0 hown hK hH hI hS (fun _ h => Or.inl h) (zk_b (z_ix.lt (⟨_, h_room, Nat.lt_trans h_room (by decide), hx2⟩ : z_ix x2 8))) (by decide) rfl (by decide) rfl (hN (.fieldLinkNest RX8 40 "Steamfield$Block" "owner" "I" "Steamfield") (by decide +kernel)) (fun _ h9 => h9) rfl (by decide +kernel) rfl rfl dX8_block_82 (fun H locs hH oq hS => ?_)
  have hT := zT_u hT oq (hq.2.1 _ (zk_lt (zk_b (z_ix.lt (⟨_, h_room, Nat.lt_trans h_room (by decide), hx2⟩ : z_ix x2 8))) (by decide)))
  have hG := zW_u hG oq hq.x (zk_lt (zk_b (z_ix.lt (⟨_, h_room, Nat.lt_trans h_room (by decide), hx2⟩ : z_ix x2 8))) (by decide))
  obtain ⟨M4, hM4⟩ : ∃ z : zM, z = zu M3 (20 + x2.toNatClampNeg) 2 a1 := ⟨_, rfl⟩
  rw [← hM4] at hH
  refine lv_aload hx hb dX8_block_85 (lv_at hl 0 rfl) ?_
  refine z_grN (D := (dC, dI)) (cl := vwCl) (C := RX0) (T := TX0) (N := 3) (ci := 0) (k := 0) hx hb hts hinX0 hown hK hH (zk_b (z_ix.lt (⟨_, h_room, Nat.lt_trans h_room (by decide), hx2⟩ : z_ix x2 8))) (by decide) rfl (by decide) rfl (zr_b (z_ix.lt (⟨_, h_room, Nat.lt_trans h_room (by decide), hx2⟩ : z_ix x2 8))) (hN (.fieldLinkNest RX8 43 "Steamfield$Block" "water" "LSteamfield$Water;" "Steamfield") (by decide +kernel)) (fun _ h9 => h9) dX8_block_87 ?_
  refine lv_iload_n hx hb dX8_block_90 rfl (lv_at hl 5 rfl) ?_
  refine zp_iN (D := (dC, dI)) (cl := vwCl) (C := RX6) (T := TX6) (N := 4) (ci := 6) (k := 0) (ty := .int) hx hb hts hinX6 tyX6 tyX6_ok nmX6 hown hK hH hI hS (fun _ h => Or.inl h) (zk_w (z_ix.lt (⟨_, h_room, Nat.lt_trans h_room (by decide), hx2⟩ : z_ix x2 8))) (by decide) rfl (by decide) rfl (hN (.fieldLinkNest RX8 47 "Steamfield$Water" "mass" "I" "Steamfield") (by decide +kernel)) (fun _ h9 => h9) rfl (by decide +kernel) rfl rfl dX8_block_91 (fun H locs hH oq hS => ?_)
  have hT := zT_u hT oq (hq.2.1 _ (zk_lt (zk_w (z_ix.lt (⟨_, h_room, Nat.lt_trans h_room (by decide), hx2⟩ : z_ix x2 8))) (by decide)))
  have hG := zW_u hG oq hq.x (zk_lt (zk_w (z_ix.lt (⟨_, h_room, Nat.lt_trans h_room (by decide), hx2⟩ : z_ix x2 8))) (by decide))
  obtain ⟨M5, hM5⟩ : ∃ z : zM, z = zu M4 (30 + x2.toNatClampNeg) 0 a2 := ⟨_, rfl⟩
  rw [← hM5] at hH
  refine lv_aload hx hb dX8_block_94 (lv_at hl 0 rfl) ?_
  refine z_grN (D := (dC, dI)) (cl := vwCl) (C := RX0) (T := TX0) (N := 3) (ci := 0) (k := 0) hx hb hts hinX0 hown hK hH (zk_b (z_ix.lt (⟨_, h_room, Nat.lt_trans h_room (by decide), hx2⟩ : z_ix x2 8))) (by decide) rfl (by decide) rfl (zr_b (z_ix.lt (⟨_, h_room, Nat.lt_trans h_room (by decide), hx2⟩ : z_ix x2 8))) (hN (.fieldLinkNest RX8 43 "Steamfield$Block" "water" "LSteamfield$Water;" "Steamfield") (by decide +kernel)) (fun _ h9 => h9) dX8_block_96 ?_
  refine lv_iload hx hb dX8_block_99 (lv_at hl 6 rfl) ?_
  refine lv_iload_n hx hb dX8_block_101 rfl (lv_at hl 3 rfl) ?_
  refine lv_iload_n hx hb dX8_block_102 rfl (lv_at hl 5 rfl) ?_
  refine lv_iadd hx hb dX8_block_103 ?_
  refine lv_topi (fun x6 ex6 => ?_)
  refine lv_imul hx hb dX8_block_104 ?_
  refine lv_topi (fun x7 ex7 => ?_)
  refine zp_iN (D := (dC, dI)) (cl := vwCl) (C := RX6) (T := TX6) (N := 4) (ci := 6) (k := 1) (ty := .int) hx hb hts hinX6 tyX6 tyX6_ok nmX6 hown hK hH hI hS (fun _ h => Or.inl h) (zk_w (z_ix.lt (⟨_, h_room, Nat.lt_trans h_room (by decide), hx2⟩ : z_ix x2 8))) (by decide) rfl (by decide) rfl (hN (.fieldLinkNest RX8 52 "Steamfield$Water" "heat" "I" "Steamfield") (by decide +kernel)) (fun _ h9 => h9) rfl (by decide +kernel) rfl rfl dX8_block_105 (fun H locs hH oq hS => ?_)
  have hT := zT_u hT oq (hq.2.1 _ (zk_lt (zk_w (z_ix.lt (⟨_, h_room, Nat.lt_trans h_room (by decide), hx2⟩ : z_ix x2 8))) (by decide)))
  have hG := zW_u hG oq hq.x (zk_lt (zk_w (z_ix.lt (⟨_, h_room, Nat.lt_trans h_room (by decide), hx2⟩ : z_ix x2 8))) (by decide))
  obtain ⟨M8, hM8⟩ : ∃ z : zM, z = zu M5 (30 + x2.toNatClampNeg) 1 x7 := ⟨_, rfl⟩
  rw [← hM8] at hH
  refine lv_aload hx hb dX8_block_108 (lv_at hl 0 rfl) ?_
  refine z_grN (D := (dC, dI)) (cl := vwCl) (C := RX0) (T := TX0) (N := 3) (ci := 0) (k := 0) hx hb hts hinX0 hown hK hH (zk_b (z_ix.lt (⟨_, h_room, Nat.lt_trans h_room (by decide), hx2⟩ : z_ix x2 8))) (by decide) rfl (by decide) rfl (zr_b (z_ix.lt (⟨_, h_room, Nat.lt_trans h_room (by decide), hx2⟩ : z_ix x2 8))) (hN (.fieldLinkNest RX8 43 "Steamfield$Block" "water" "LSteamfield$Water;" "Steamfield") (by decide +kernel)) (fun _ h9 => h9) dX8_block_110 ?_
  refine lv_iload hx hb dX8_block_113 (lv_at hl 7 rfl) ?_
  refine zp_iN (D := (dC, dI)) (cl := vwCl) (C := RX6) (T := TX6) (N := 4) (ci := 6) (k := 2) (ty := .int) hx hb hts hinX6 tyX6 tyX6_ok nmX6 hown hK hH hI hS (fun _ h => Or.inl h) (zk_w (z_ix.lt (⟨_, h_room, Nat.lt_trans h_room (by decide), hx2⟩ : z_ix x2 8))) (by decide) rfl (by decide) rfl (hN (.fieldLinkNest RX8 55 "Steamfield$Water" "salt" "I" "Steamfield") (by decide +kernel)) (fun _ h9 => h9) rfl (by decide +kernel) rfl rfl dX8_block_115 (fun H locs hH oq hS => ?_)
  have hT := zT_u hT oq (hq.2.1 _ (zk_lt (zk_w (z_ix.lt (⟨_, h_room, Nat.lt_trans h_room (by decide), hx2⟩ : z_ix x2 8))) (by decide)))
  have hG := zW_u hG oq hq.x (zk_lt (zk_w (z_ix.lt (⟨_, h_room, Nat.lt_trans h_room (by decide), hx2⟩ : z_ix x2 8))) (by decide))
  obtain ⟨M9, hM9⟩ : ∃ z : zM, z = zu M8 (30 + x2.toNatClampNeg) 2 a4 := ⟨_, rfl⟩
  rw [← hM9] at hH
  refine lv_aload_n hx hb dX8_block_118 rfl (lv_at hl 2 rfl) ?_
  refine z_gS (k := 0) (v := ad 0) hx hb hts hinX8 hown hK hT (by decide) rfl (hts (.fieldLink RX8 10 "Steamfield" "land" "LSteamfield$Land;") (by decide +kernel)) (fun _ h9 => h9) dX8_block_119 ?_
  refine z_grN (D := (dC, dI)) (cl := vwCl) (C := RX3) (T := TX3) (N := 15) (ci := 3) (k := 6) hx hb hts hinX3 hown hK hH zk_0 (by decide) rfl (by decide) rfl (zr_0 (k := 6) (by decide)) (hN (.fieldLinkNest RX8 58 "Steamfield$Land" "books" "LSteamfield$Books;" "Steamfield") (by decide +kernel)) (fun _ h9 => h9) dX8_block_122 ?_
  refine z_grN (D := (dC, dI)) (cl := vwCl) (C := RX1) (T := TX1) (N := 5) (ci := 1) (k := 0) hx hb hts hinX1 hown hK hH zk_7 (by decide) rfl (by decide) rfl (zr_7 (k := 0) (by decide)) (hN (.fieldLinkNest RX8 62 "Steamfield$Books" "told" "LSteamfield$Water;" "Steamfield") (by decide +kernel)) (fun _ h9 => h9) dX8_block_125 ?_
  refine lv_aload hx hb dX8_block_128 (lv_at hl 0 rfl) ?_
  refine z_grN (D := (dC, dI)) (cl := vwCl) (C := RX0) (T := TX0) (N := 3) (ci := 0) (k := 0) hx hb hts hinX0 hown hK hH (zk_b (z_ix.lt (⟨_, h_room, Nat.lt_trans h_room (by decide), hx2⟩ : z_ix x2 8))) (by decide) rfl (by decide) rfl (zr_b (z_ix.lt (⟨_, h_room, Nat.lt_trans h_room (by decide), hx2⟩ : z_ix x2 8))) (hN (.fieldLinkNest RX8 43 "Steamfield$Block" "water" "LSteamfield$Water;" "Steamfield") (by decide +kernel)) (fun _ h9 => h9) dX8_block_130 ?_
  refine z_cVv (D := (dC, dI)) (cl := vwCl) (tys := zt ca) (nw := zw_nest) (C := RX6) (As := [.ref (ad (30 + x2.toNatClampNeg))]) (rest := []) ⟨hx, hb, hml, hown, hts⟩ (m_X6_add l dC dI ca ad hI M9 11 zk_11 (30 + x2.toNatClampNeg) (zk_w (z_ix.lt (⟨_, h_room, Nat.lt_trans h_room (by decide), hx2⟩ : z_ix x2 8)))) (cwV 1 hts gX8_block_X6_add rfl rfl rfl (by decide +kernel) ⟨Nat.le_of_ble_eq_true rfl, Nat.le_of_ble_eq_true rfl⟩) (z_recv (ci := 6) (i := 11) hK hH zk_11 (by decide) rfl) hH hK hN zw_nest_ok rfl hl.1 rfl (Nat.le_of_ble_eq_true rfl) dX8_block_133 ⟨Nat.le_refl _, Nat.le_refl _⟩ hS (fun _ h => Or.inl h) (fun H locs hB1 oq1 hz1 hS => ?_)
  have hT := zT_c hT oq1 hq.a1
  have hG := zW_c hG oq1 hq.x
  have hH := hB1
  obtain ⟨M10, hM10⟩ : ∃ z : zM, z = fX6_add M9 11 (30 + x2.toNatClampNeg) := ⟨_, rfl⟩
  have hH : z_H (dC, dI) vwCl zf ca zd ad M10 H := by rw [hM10]; exact hH
  refine lv_aload_n hx hb dX8_block_136 rfl (lv_at hl 2 rfl) ?_
  refine z_gS (k := 0) (v := ad 0) hx hb hts hinX8 hown hK hT (by decide) rfl (hts (.fieldLink RX8 10 "Steamfield" "land" "LSteamfield$Land;") (by decide +kernel)) (fun _ h9 => h9) dX8_block_137 ?_
  refine lv_iload hx hb dX8_block_140 (lv_at hl 1 rfl) ?_
  refine lv_iconst (v := 1) hx hb dX8_block_142 (by decide) ?_
  refine lv_iadd hx hb dX8_block_143 ?_
  refine lv_topi (fun x11 ex11 => ?_)
  refine zp_iN (D := (dC, dI)) (cl := vwCl) (C := RX3) (T := TX3) (N := 15) (ci := 3) (k := 10) (ty := .int) hx hb hts hinX3 tyX3 tyX3_ok nmX3 hown hK hH hI hS (fun _ h => Or.inl h) zk_0 (by decide) rfl (by decide) rfl (hN (.fieldLinkNest RX8 23 "Steamfield$Land" "blockCount" "I" "Steamfield") (by decide +kernel)) (fun _ h9 => h9) rfl (by decide +kernel) rfl rfl dX8_block_144 (fun H locs hH oq hS => ?_)
  have hT := zT_u hT oq (hq.2.1 _ (zk_lt zk_0 (by decide)))
  have hG := zW_u hG oq hq.x (zk_lt zk_0 (by decide))
  obtain ⟨M12, hM12⟩ : ∃ z : zM, z = zu M10 0 10 x11 := ⟨_, rfl⟩
  rw [← hM12] at hH
  refine lv_iload hx hb dX8_block_147 (lv_at hl 1 rfl) ?_
  have hF0 : zW dC dI ca ad (fX8_block M N a0 a1 a2 a3 a4) H := by
    have e9 : M12 = (fX8_block M N a0 a1 a2 a3 a4) := by subst hM12; subst ex11; subst hM10; subst hM9; subst hM8; subst ex7; subst ex6; subst hM5; subst hM4; subst hM3; subst ex2; subst ex1; rfl
    rw [← e9]; exact hH
  have hR : x2 = rX8_block M N a0 a1 a2 a3 a4 := by subst hM12; subst ex11; subst hM10; subst hM9; subst hM8; subst ex7; subst ex6; subst hM5; subst hM4; subst hM3; subst ex2; subst ex1; rfl
  exact W.iret (v := x2) hx hb hr (fun t ht hW => ⟨⟨x2, (), rfl, hR, z_to (B := fun H => zT dC dI ca sf (ad 0) (ad2 0) H ∧ zW dC dI ca ad (fX8_block M N a0 a1 a2 a3 a4) H ∧ zW dC dI ca ad2 N H) ht ⟨hT, hF0, hG⟩⟩, hS.F ht⟩) hS.2.2 dX8_block_149

def fX8_face (M : zM) (N : zM) (a0 : Int32) (a1 : Int32) (a2 : Int32) : zM :=
  let x1 : Int32 := M 0 10
  let x2 : Int32 := M 0 10
  let x4 : Int32 := M 0 11
  let x5 : Int32 := M 0 11
  let M6 : zM := zu M (40 + x5.toNatClampNeg) 0 a0
  let M7 : zM := zu M6 (40 + x5.toNatClampNeg) 1 a1
  let M8 : zM := zu M7 (40 + x5.toNatClampNeg) 2 a2
  let x9 : Int32 := x5 + 1
  let M10 : zM := zu M8 0 11 x9
  M10
def rX8_face (M : zM) (N : zM) (a0 : Int32) (a1 : Int32) (a2 : Int32) : Int32 :=
  let x1 : Int32 := M 0 10
  let x2 : Int32 := M 0 10
  let x4 : Int32 := M 0 11
  let x5 : Int32 := M 0 11
  let M6 : zM := zu M (40 + x5.toNatClampNeg) 0 a0
  let M7 : zM := zu M6 (40 + x5.toNatClampNeg) 1 a1
  let M8 : zM := zu M7 (40 + x5.toNatClampNeg) 2 a2
  let x9 : Int32 := x5 + 1
  let M10 : zM := zu M8 0 11 x9
  x5
set_option maxHeartbeats 4000000 in
set_option maxRecDepth 100000 in
theorem m_X8_face (l : Launch) (dC : Nat → ClassId) (dI : Nat → Nat → Nat) (ca : Nat → ClassId) (sf : Nat) (ad : Nat → Nat) (hI : z_I zd ad) (ad2 : Nat → Nat) (hI2 : z_I zd ad2) (hq : zSep sf ad ad2) (M : zM) (N : zM) (a0 : Int32) (a1 : Int32) (a2 : Int32) (hOk0 : z_Ok M) (h_a0 : z_ix a0 (zc10 M)) (h_a1 : z_ix a1 (zc10 M)) (h_ne : ¬ a0 = a1) (r_a2 : z_rg a2 1 9) (h_room : zc11 M < 12) : Met l yX8_face wsX8_face ({ frames := 1, cells := 0, slots := 0, locals := 22 }) (z_Pc (dC, dI) vwCl (zt ca) zw_nest [.ref sf, .int a0, .int a1, .int a2] (fun H => zT dC dI ca sf (ad 0) (ad2 0) H ∧ zW dC dI ca ad M H ∧ zW dC dI ca ad2 N H)) (z_Qi (rX8_face M N a0 a1 a2) (fun H => zT dC dI ca sf (ad 0) (ad2 0) H ∧ zW dC dI ca ad (fX8_face M N a0 a1 a2) H ∧ zW dC dI ca ad2 N H) (zA2 ad ad2)) 0 0 (zA2 ad ad2) := by
  refine Met.ofW (cc := cX8_face) (maxL := 6) (ret := (some .int)) (by decide) rfl ?_
  intro p e s m args below meth c s₁ B9 hml hv
  obtain ⟨rfl, ⟨hT, hH, hG⟩, hK, hN⟩ := hv
  have hx := B9.exec
  have hb := B9.bytes
  have hr := B9.returns
  have hts := atoms_spec (ws := wsX8_face) B9.pre
  have hown : s.vm.findClass RX8 = some m.cls := findClass_of_methodNamed B9.named
  have hlocks := B9.notSynchronized
  have hS : va_S (zA2 ad ad2) s.heap s.heap [] := va_S.rf
  have hOk := hOk0
  have hFx : z_Fx M M := z_Fx.rf
  have hT : zT dC dI ca sf (ad 0) (ad2 0) s.heap := hT
  have hH : zW dC dI ca ad M s.heap := hH
  have hG : zW dC dI ca ad2 N s.heap := hG
  have hinX2 : ∀ w ∈ u_ws RX2 TX2 4, w ∈ wsX8_face := by decide +kernel
  have hinX3 : ∀ w ∈ u_ws RX3 TX3 15, w ∈ wsX8_face := by decide +kernel
  have hinX8 : ∀ w ∈ u_ws RX8 TX8 2, w ∈ wsX8_face := by decide +kernel
  have hl := lv_entry ([.ref sf, .int a0, .int a1, .int a2]) (n := 6) (Nat.le_of_ble_eq_true rfl)
  rw [lg_entry_eq]
  generalize (lg_sl ([.ref sf, .int a0, .int a1, .int a2]) ++ List.replicate (6 - (lg_sl ([.ref sf, .int a0, .int a1, .int a2])).length) Slot.unset).toArray = ls at hl ⊢
  have hl : lv_has ls 6 [(0, .ref sf), (1, .int a0), (2, .int a1), (3, .int a2)] := hl
  refine lv_iload_n hx hb dX8_face_0 rfl (lv_at hl 1 rfl) ?_
  refine lv_aload_n hx hb dX8_face_1 rfl (lv_at hl 0 rfl) ?_
  refine z_gS (k := 0) (v := ad 0) hx hb hts hinX8 hown hK hT (by decide) rfl (hts (.fieldLink RX8 10 "Steamfield" "land" "LSteamfield$Land;") (by decide +kernel)) (fun _ h9 => h9) dX8_face_2 ?_
  refine z_giN (D := (dC, dI)) (cl := vwCl) (C := RX3) (T := TX3) (N := 15) (ci := 3) (k := 10) hx hb hts hinX3 hown hK hH zk_0 (by decide) rfl (by decide) rfl (hN (.fieldLinkNest RX8 23 "Steamfield$Land" "blockCount" "I" "Steamfield") (by decide +kernel)) (fun _ h9 => h9) dX8_face_5 ?_
  refine lv_topi (fun x1 ex1 => ?_)
  have hx1 : x1 = nI (zc10 M) := by rw [ex1, hFx.c10]; exact z_Ok.c10 hOk0
  refine z_cSv (D := (dC, dI)) (cl := vwCl) (tys := zt ca) (nw := zw_nest) (As := [.int a0, .int x1]) (rest := []) ⟨hx, hb, hml, hown, hts⟩ (m_X8_needIndex l dC dI ca (fun z : Heap => z = s.heap)  a0 x1 (z_ni_of h_a0 hx1 (Nat.lt_of_le_of_lt (z_Ok.n10 hOk0) (by decide)))) (cwS 2 hts gX8_face_X8_needIndex rfl rfl rfl (by decide +kernel) ⟨Nat.le_of_ble_eq_true rfl, Nat.le_of_ble_eq_true rfl⟩) rfl hK hN zw_nest_ok rfl hl.1 rfl (Nat.le_of_ble_eq_true rfl) dX8_face_8 ⟨Nat.le_refl _, Nat.le_refl _⟩ hS (fun _ h => h.elim) (fun H locs hB1 oq1 hz1 hS => ?_)
  have hT : zT dC dI ca sf (ad 0) (ad2 0) H := by rw [hB1]; exact hT
  have hH : zW dC dI ca ad M H := by rw [hB1]; exact hH
  have hG : zW dC dI ca ad2 N H := by rw [hB1]; exact hG
  refine lv_iload_n hx hb dX8_face_11 rfl (lv_at hl 2 rfl) ?_
  refine lv_aload_n hx hb dX8_face_12 rfl (lv_at hl 0 rfl) ?_
  refine z_gS (k := 0) (v := ad 0) hx hb hts hinX8 hown hK hT (by decide) rfl (hts (.fieldLink RX8 10 "Steamfield" "land" "LSteamfield$Land;") (by decide +kernel)) (fun _ h9 => h9) dX8_face_13 ?_
  refine z_giN (D := (dC, dI)) (cl := vwCl) (C := RX3) (T := TX3) (N := 15) (ci := 3) (k := 10) hx hb hts hinX3 hown hK hH zk_0 (by decide) rfl (by decide) rfl (hN (.fieldLinkNest RX8 23 "Steamfield$Land" "blockCount" "I" "Steamfield") (by decide +kernel)) (fun _ h9 => h9) dX8_face_16 ?_
  refine lv_topi (fun x2 ex2 => ?_)
  have hx2 : x2 = nI (zc10 M) := by rw [ex2, hFx.c10]; exact z_Ok.c10 hOk0
  refine z_cSv (D := (dC, dI)) (cl := vwCl) (tys := zt ca) (nw := zw_nest) (As := [.int a1, .int x2]) (rest := []) ⟨hx, hb, hml, hown, hts⟩ (m_X8_needIndex l dC dI ca (fun z : Heap => z = H)  a1 x2 (z_ni_of h_a1 hx2 (Nat.lt_of_le_of_lt (z_Ok.n10 hOk0) (by decide)))) (cwS 2 hts gX8_face_X8_needIndex rfl rfl rfl (by decide +kernel) ⟨Nat.le_of_ble_eq_true rfl, Nat.le_of_ble_eq_true rfl⟩) rfl hK hN zw_nest_ok rfl hl.1 rfl (Nat.le_of_ble_eq_true rfl) dX8_face_19 ⟨Nat.le_refl _, Nat.le_refl _⟩ hS (fun _ h => h.elim) (fun H locs hB1 oq1 hz1 hS => ?_)
  have hT : zT dC dI ca sf (ad 0) (ad2 0) H := by rw [hB1]; exact hT
  have hH : zW dC dI ca ad M H := by rw [hB1]; exact hH
  have hG : zW dC dI ca ad2 N H := by rw [hB1]; exact hG
  refine lv_iload_n hx hb dX8_face_22 rfl (lv_at hl 1 rfl) ?_
  refine lv_iload_n hx hb dX8_face_23 rfl (lv_at hl 2 rfl) ?_
  refine lv_icmp_ne (tgt := 37) hx hb dX8_face_24 (by decide) (fun c3 => ?_) (fun c3 => ?_)
  · refine lv_iload_n hx hb dX8_face_37 rfl (lv_at hl 3 rfl) ?_
    refine lv_iconst (v := 1) hx hb dX8_face_38 (by decide) ?_
    refine lv_bipush (v := 9) hx hb dX8_face_39 (by decide) ?_
    refine z_cSv (D := (dC, dI)) (cl := vwCl) (tys := zt ca) (nw := zw_nest) (As := [.int a2, .int 1, .int 9]) (rest := []) ⟨hx, hb, hml, hown, hts⟩ (m_X8_needRange l dC dI ca (fun z : Heap => z = H)  a2 1 9 r_a2) (cwS 3 hts gX8_face_X8_needRange rfl rfl rfl (by decide +kernel) ⟨Nat.le_of_ble_eq_true rfl, Nat.le_of_ble_eq_true rfl⟩) rfl hK hN zw_nest_ok rfl hl.1 rfl (Nat.le_of_ble_eq_true rfl) dX8_face_41 ⟨Nat.le_refl _, Nat.le_refl _⟩ hS (fun _ h => h.elim) (fun H locs hB1 oq1 hz1 hS => ?_)
    have hT : zT dC dI ca sf (ad 0) (ad2 0) H := by rw [hB1]; exact hT
    have hH : zW dC dI ca ad M H := by rw [hB1]; exact hH
    have hG : zW dC dI ca ad2 N H := by rw [hB1]; exact hG
    refine lv_aload_n hx hb dX8_face_44 rfl (lv_at hl 0 rfl) ?_
    refine z_gS (k := 0) (v := ad 0) hx hb hts hinX8 hown hK hT (by decide) rfl (hts (.fieldLink RX8 10 "Steamfield" "land" "LSteamfield$Land;") (by decide +kernel)) (fun _ h9 => h9) dX8_face_45 ?_
    refine z_giN (D := (dC, dI)) (cl := vwCl) (C := RX3) (T := TX3) (N := 15) (ci := 3) (k := 11) hx hb hts hinX3 hown hK hH zk_0 (by decide) rfl (by decide) rfl (hN (.fieldLinkNest RX8 81 "Steamfield$Land" "faceCount" "I" "Steamfield") (by decide +kernel)) (fun _ h9 => h9) dX8_face_48 ?_
    refine lv_topi (fun x4 ex4 => ?_)
    have hx4 : x4 = nI (zc11 M) := by rw [ex4, hFx.c11]; exact z_Ok.c11 hOk0
    refine lv_bipush (v := 12) hx hb dX8_face_51 (by decide) ?_
    refine z_cSv (D := (dC, dI)) (cl := vwCl) (tys := zt ca) (nw := zw_nest) (As := [.int x4, .int 12]) (rest := []) ⟨hx, hb, hml, hown, hts⟩ (m_X8_needRoom l dC dI ca (fun z : Heap => z = H)  x4 12 (z_rm_of h_room hx4 rfl (by decide))) (cwS 2 hts gX8_face_X8_needRoom rfl rfl rfl (by decide +kernel) ⟨Nat.le_of_ble_eq_true rfl, Nat.le_of_ble_eq_true rfl⟩) rfl hK hN zw_nest_ok rfl hl.1 rfl (Nat.le_of_ble_eq_true rfl) dX8_face_53 ⟨Nat.le_refl _, Nat.le_refl _⟩ hS (fun _ h => h.elim) (fun H locs hB1 oq1 hz1 hS => ?_)
    have hT : zT dC dI ca sf (ad 0) (ad2 0) H := by rw [hB1]; exact hT
    have hH : zW dC dI ca ad M H := by rw [hB1]; exact hH
    have hG : zW dC dI ca ad2 N H := by rw [hB1]; exact hG
    refine lv_aload_n hx hb dX8_face_56 rfl (lv_at hl 0 rfl) ?_
    refine z_gS (k := 0) (v := ad 0) hx hb hts hinX8 hown hK hT (by decide) rfl (hts (.fieldLink RX8 10 "Steamfield" "land" "LSteamfield$Land;") (by decide +kernel)) (fun _ h9 => h9) dX8_face_57 ?_
    refine z_giN (D := (dC, dI)) (cl := vwCl) (C := RX3) (T := TX3) (N := 15) (ci := 3) (k := 11) hx hb hts hinX3 hown hK hH zk_0 (by decide) rfl (by decide) rfl (hN (.fieldLinkNest RX8 81 "Steamfield$Land" "faceCount" "I" "Steamfield") (by decide +kernel)) (fun _ h9 => h9) dX8_face_60 ?_
    refine lv_topi (fun x5 ex5 => ?_)
    have hx5 : x5 = nI (zc11 M) := by rw [ex5, hFx.c11]; exact z_Ok.c11 hOk0
    refine lv_istore (lv' := [(4, .int x5), (0, .ref sf), (1, .int a0), (2, .int a1), (3, .int a2)]) hx hb dX8_face_63 hl (by decide) rfl (fun ls hl => ?_)
    refine lv_aload_n hx hb dX8_face_65 rfl (lv_at hl 1 rfl) ?_
    refine z_gS (k := 0) (v := ad 0) hx hb hts hinX8 hown hK hT (by decide) rfl (hts (.fieldLink RX8 10 "Steamfield" "land" "LSteamfield$Land;") (by decide +kernel)) (fun _ h9 => h9) dX8_face_66 ?_
    refine z_grN (D := (dC, dI)) (cl := vwCl) (C := RX3) (T := TX3) (N := 15) (ci := 3) (k := 1) hx hb hts hinX3 hown hK hH zk_0 (by decide) rfl (by decide) rfl (zr_0 (k := 1) (by decide)) (hN (.fieldLinkNest RX8 84 "Steamfield$Land" "faces" "[LSteamfield$Face;" "Steamfield") (by decide +kernel)) (fun _ h9 => h9) dX8_face_69 ?_
    refine lv_iload hx hb dX8_face_72 (lv_at hl 0 rfl) ?_
    refine z_aq (t0 := 2) (D := (dC, dI)) (cl := vwCl) (tys := zt ca) hx hb hK hH zk_2 (by decide) (by decide) rfl (show vp_in x5 12 from (z_ix.in (⟨_, h_room, Nat.lt_trans h_room (by decide), hx5⟩ : z_ix x5 12))) (show zr 2 (x5 : Int32).toNatClampNeg = some (40 + x5.toNatClampNeg) from zr_2 (z_ix.lt (⟨_, h_room, Nat.lt_trans h_room (by decide), hx5⟩ : z_ix x5 12))) dX8_face_74 ?_
    refine lv_astore (lv' := [(5, .ref (ad (40 + x5.toNatClampNeg))), (4, .int x5), (0, .ref sf), (1, .int a0), (2, .int a1), (3, .int a2)]) hx hb dX8_face_75 hl (by decide) rfl (fun ls hl => ?_)
    refine lv_aload hx hb dX8_face_77 (lv_at hl 0 rfl) ?_
    refine lv_iload_n hx hb dX8_face_79 rfl (lv_at hl 3 rfl) ?_
    refine zp_iN (D := (dC, dI)) (cl := vwCl) (C := RX2) (T := TX2) (N := 4) (ci := 2) (k := 0) (ty := .int) hx hb hts hinX2 tyX2 tyX2_ok nmX2 hown hK hH hI hS (fun _ h => Or.inl h) (zk_f (z_ix.lt (⟨_, h_room, Nat.lt_trans h_room (by decide), hx5⟩ : z_ix x5 12))) (by decide) rfl (by decide) rfl (hN (.fieldLinkNest RX8 88 "Steamfield$Face" "one" "I" "Steamfield") (by decide +kernel)) (fun _ h9 => h9) rfl (by decide +kernel) rfl rfl dX8_face_80 (fun H locs hH oq hS => ?_)
    have hT := zT_u hT oq (hq.2.1 _ (zk_lt (zk_f (z_ix.lt (⟨_, h_room, Nat.lt_trans h_room (by decide), hx5⟩ : z_ix x5 12))) (by decide)))
    have hG := zW_u hG oq hq.x (zk_lt (zk_f (z_ix.lt (⟨_, h_room, Nat.lt_trans h_room (by decide), hx5⟩ : z_ix x5 12))) (by decide))
    obtain ⟨M6, hM6⟩ : ∃ z : zM, z = zu M (40 + x5.toNatClampNeg) 0 a0 := ⟨_, rfl⟩
    rw [← hM6] at hH
    refine lv_aload hx hb dX8_face_83 (lv_at hl 0 rfl) ?_
    refine lv_iload_n hx hb dX8_face_85 rfl (lv_at hl 4 rfl) ?_
    refine zp_iN (D := (dC, dI)) (cl := vwCl) (C := RX2) (T := TX2) (N := 4) (ci := 2) (k := 1) (ty := .int) hx hb hts hinX2 tyX2 tyX2_ok nmX2 hown hK hH hI hS (fun _ h => Or.inl h) (zk_f (z_ix.lt (⟨_, h_room, Nat.lt_trans h_room (by decide), hx5⟩ : z_ix x5 12))) (by decide) rfl (by decide) rfl (hN (.fieldLinkNest RX8 93 "Steamfield$Face" "other" "I" "Steamfield") (by decide +kernel)) (fun _ h9 => h9) rfl (by decide +kernel) rfl rfl dX8_face_86 (fun H locs hH oq hS => ?_)
    have hT := zT_u hT oq (hq.2.1 _ (zk_lt (zk_f (z_ix.lt (⟨_, h_room, Nat.lt_trans h_room (by decide), hx5⟩ : z_ix x5 12))) (by decide)))
    have hG := zW_u hG oq hq.x (zk_lt (zk_f (z_ix.lt (⟨_, h_room, Nat.lt_trans h_room (by decide), hx5⟩ : z_ix x5 12))) (by decide))
    obtain ⟨M7, hM7⟩ : ∃ z : zM, z = zu M6 (40 + x5.toNatClampNeg) 1 a1 := ⟨_, rfl⟩
    rw [← hM7] at hH
    refine lv_aload hx hb dX8_face_89 (lv_at hl 0 rfl) ?_
    refine lv_iload_n hx hb dX8_face_91 rfl (lv_at hl 5 rfl) ?_
    refine zp_iN (D := (dC, dI)) (cl := vwCl) (C := RX2) (T := TX2) (N := 4) (ci := 2) (k := 2) (ty := .int) hx hb hts hinX2 tyX2 tyX2_ok nmX2 hown hK hH hI hS (fun _ h => Or.inl h) (zk_f (z_ix.lt (⟨_, h_room, Nat.lt_trans h_room (by decide), hx5⟩ : z_ix x5 12))) (by decide) rfl (by decide) rfl (hN (.fieldLinkNest RX8 96 "Steamfield$Face" "open" "I" "Steamfield") (by decide +kernel)) (fun _ h9 => h9) rfl (by decide +kernel) rfl rfl dX8_face_92 (fun H locs hH oq hS => ?_)
    have hT := zT_u hT oq (hq.2.1 _ (zk_lt (zk_f (z_ix.lt (⟨_, h_room, Nat.lt_trans h_room (by decide), hx5⟩ : z_ix x5 12))) (by decide)))
    have hG := zW_u hG oq hq.x (zk_lt (zk_f (z_ix.lt (⟨_, h_room, Nat.lt_trans h_room (by decide), hx5⟩ : z_ix x5 12))) (by decide))
    obtain ⟨M8, hM8⟩ : ∃ z : zM, z = zu M7 (40 + x5.toNatClampNeg) 2 a2 := ⟨_, rfl⟩
    rw [← hM8] at hH
    refine lv_aload_n hx hb dX8_face_95 rfl (lv_at hl 2 rfl) ?_
    refine z_gS (k := 0) (v := ad 0) hx hb hts hinX8 hown hK hT (by decide) rfl (hts (.fieldLink RX8 10 "Steamfield" "land" "LSteamfield$Land;") (by decide +kernel)) (fun _ h9 => h9) dX8_face_96 ?_
    refine lv_iload hx hb dX8_face_99 (lv_at hl 1 rfl) ?_
    refine lv_iconst (v := 1) hx hb dX8_face_101 (by decide) ?_
    refine lv_iadd hx hb dX8_face_102 ?_
    refine lv_topi (fun x9 ex9 => ?_)
    refine zp_iN (D := (dC, dI)) (cl := vwCl) (C := RX3) (T := TX3) (N := 15) (ci := 3) (k := 11) (ty := .int) hx hb hts hinX3 tyX3 tyX3_ok nmX3 hown hK hH hI hS (fun _ h => Or.inl h) zk_0 (by decide) rfl (by decide) rfl (hN (.fieldLinkNest RX8 81 "Steamfield$Land" "faceCount" "I" "Steamfield") (by decide +kernel)) (fun _ h9 => h9) rfl (by decide +kernel) rfl rfl dX8_face_103 (fun H locs hH oq hS => ?_)
    have hT := zT_u hT oq (hq.2.1 _ (zk_lt zk_0 (by decide)))
    have hG := zW_u hG oq hq.x (zk_lt zk_0 (by decide))
    obtain ⟨M10, hM10⟩ : ∃ z : zM, z = zu M8 0 11 x9 := ⟨_, rfl⟩
    rw [← hM10] at hH
    refine lv_iload hx hb dX8_face_106 (lv_at hl 1 rfl) ?_
    have hF0 : zW dC dI ca ad (fX8_face M N a0 a1 a2) H := by
      have e9 : M10 = (fX8_face M N a0 a1 a2) := by subst hM10; subst ex9; subst hM8; subst hM7; subst hM6; subst ex5; subst ex4; subst ex2; subst ex1; rfl
      rw [← e9]; exact hH
    have hR : x5 = rX8_face M N a0 a1 a2 := by subst hM10; subst ex9; subst hM8; subst hM7; subst hM6; subst ex5; subst ex4; subst ex2; subst ex1; rfl
    exact W.iret (v := x5) hx hb hr (fun t ht hW => ⟨⟨x5, (), rfl, hR, z_to (B := fun H => zT dC dI ca sf (ad 0) (ad2 0) H ∧ zW dC dI ca ad (fX8_face M N a0 a1 a2) H ∧ zW dC dI ca ad2 N H) ht ⟨hT, hF0, hG⟩⟩, hS.F ht⟩) hS.2.2 dX8_face_108
  · exact absurd c3 h_ne

def fX8_well (M : zM) (N : zM) (a0 : Int32) (a1 : Int32) : zM :=
  let x1 : Int32 := M 0 10
  let x2 : Int32 := M 0 12
  let x3 : Int32 := M 0 12
  let M4 : zM := zu M (60 + x3.toNatClampNeg) 0 a0
  let M5 : zM := zu M4 (60 + x3.toNatClampNeg) 1 a1
  let x6 : Int32 := x3 + 1
  let M7 : zM := zu M5 0 12 x6
  M7
def rX8_well (M : zM) (N : zM) (a0 : Int32) (a1 : Int32) : Int32 :=
  let x1 : Int32 := M 0 10
  let x2 : Int32 := M 0 12
  let x3 : Int32 := M 0 12
  let M4 : zM := zu M (60 + x3.toNatClampNeg) 0 a0
  let M5 : zM := zu M4 (60 + x3.toNatClampNeg) 1 a1
  let x6 : Int32 := x3 + 1
  let M7 : zM := zu M5 0 12 x6
  x3
set_option maxHeartbeats 4000000 in
set_option maxRecDepth 100000 in
theorem m_X8_well (l : Launch) (dC : Nat → ClassId) (dI : Nat → Nat → Nat) (ca : Nat → ClassId) (sf : Nat) (ad : Nat → Nat) (hI : z_I zd ad) (ad2 : Nat → Nat) (hI2 : z_I zd ad2) (hq : zSep sf ad ad2) (M : zM) (N : zM) (a0 : Int32) (a1 : Int32) (hOk0 : z_Ok M) (h_a0 : z_ix a0 (zc10 M)) (h_room : zc12 M < 6) (h_inj : a1 = 0 ∨ a1 = 1) : Met l yX8_well wsX8_well ({ frames := 1, cells := 0, slots := 0, locals := 21 }) (z_Pc (dC, dI) vwCl (zt ca) zw_nest [.ref sf, .int a0, .int a1] (fun H => zT dC dI ca sf (ad 0) (ad2 0) H ∧ zW dC dI ca ad M H ∧ zW dC dI ca ad2 N H)) (z_Qi (rX8_well M N a0 a1) (fun H => zT dC dI ca sf (ad 0) (ad2 0) H ∧ zW dC dI ca ad (fX8_well M N a0 a1) H ∧ zW dC dI ca ad2 N H) (zA2 ad ad2)) 0 0 (zA2 ad ad2) := by
  refine Met.ofW (cc := cX8_well) (maxL := 5) (ret := (some .int)) (by decide) rfl ?_
  intro p e s m args below meth c s₁ B9 hml hv
  obtain ⟨rfl, ⟨hT, hH, hG⟩, hK, hN⟩ := hv
  have hx := B9.exec
  have hb := B9.bytes
  have hr := B9.returns
  have hts := atoms_spec (ws := wsX8_well) B9.pre
  have hown : s.vm.findClass RX8 = some m.cls := findClass_of_methodNamed B9.named
  have hlocks := B9.notSynchronized
  have hS : va_S (zA2 ad ad2) s.heap s.heap [] := va_S.rf
  have hOk := hOk0
  have hFx : z_Fx M M := z_Fx.rf
  have hT : zT dC dI ca sf (ad 0) (ad2 0) s.heap := hT
  have hH : zW dC dI ca ad M s.heap := hH
  have hG : zW dC dI ca ad2 N s.heap := hG
  have hinX3 : ∀ w ∈ u_ws RX3 TX3 15, w ∈ wsX8_well := by decide +kernel
  have hinX7 : ∀ w ∈ u_ws RX7 TX7 9, w ∈ wsX8_well := by decide +kernel
  have hinX8 : ∀ w ∈ u_ws RX8 TX8 2, w ∈ wsX8_well := by decide +kernel
  have hl := lv_entry ([.ref sf, .int a0, .int a1]) (n := 5) (Nat.le_of_ble_eq_true rfl)
  rw [lg_entry_eq]
  generalize (lg_sl ([.ref sf, .int a0, .int a1]) ++ List.replicate (5 - (lg_sl ([.ref sf, .int a0, .int a1])).length) Slot.unset).toArray = ls at hl ⊢
  have hl : lv_has ls 5 [(0, .ref sf), (1, .int a0), (2, .int a1)] := hl
  refine lv_iload_n hx hb dX8_well_0 rfl (lv_at hl 1 rfl) ?_
  refine lv_aload_n hx hb dX8_well_1 rfl (lv_at hl 0 rfl) ?_
  refine z_gS (k := 0) (v := ad 0) hx hb hts hinX8 hown hK hT (by decide) rfl (hts (.fieldLink RX8 10 "Steamfield" "land" "LSteamfield$Land;") (by decide +kernel)) (fun _ h9 => h9) dX8_well_2 ?_
  refine z_giN (D := (dC, dI)) (cl := vwCl) (C := RX3) (T := TX3) (N := 15) (ci := 3) (k := 10) hx hb hts hinX3 hown hK hH zk_0 (by decide) rfl (by decide) rfl (hN (.fieldLinkNest RX8 23 "Steamfield$Land" "blockCount" "I" "Steamfield") (by decide +kernel)) (fun _ h9 => h9) dX8_well_5 ?_
  refine lv_topi (fun x1 ex1 => ?_)
  have hx1 : x1 = nI (zc10 M) := by rw [ex1, hFx.c10]; exact z_Ok.c10 hOk0
  refine z_cSv (D := (dC, dI)) (cl := vwCl) (tys := zt ca) (nw := zw_nest) (As := [.int a0, .int x1]) (rest := []) ⟨hx, hb, hml, hown, hts⟩ (m_X8_needIndex l dC dI ca (fun z : Heap => z = s.heap)  a0 x1 (z_ni_of h_a0 hx1 (Nat.lt_of_le_of_lt (z_Ok.n10 hOk0) (by decide)))) (cwS 2 hts gX8_well_X8_needIndex rfl rfl rfl (by decide +kernel) ⟨Nat.le_of_ble_eq_true rfl, Nat.le_of_ble_eq_true rfl⟩) rfl hK hN zw_nest_ok rfl hl.1 rfl (Nat.le_of_ble_eq_true rfl) dX8_well_8 ⟨Nat.le_refl _, Nat.le_refl _⟩ hS (fun _ h => h.elim) (fun H locs hB1 oq1 hz1 hS => ?_)
  have hT : zT dC dI ca sf (ad 0) (ad2 0) H := by rw [hB1]; exact hT
  have hH : zW dC dI ca ad M H := by rw [hB1]; exact hH
  have hG : zW dC dI ca ad2 N H := by rw [hB1]; exact hG
  refine lv_aload_n hx hb dX8_well_11 rfl (lv_at hl 0 rfl) ?_
  refine z_gS (k := 0) (v := ad 0) hx hb hts hinX8 hown hK hT (by decide) rfl (hts (.fieldLink RX8 10 "Steamfield" "land" "LSteamfield$Land;") (by decide +kernel)) (fun _ h9 => h9) dX8_well_12 ?_
  refine z_giN (D := (dC, dI)) (cl := vwCl) (C := RX3) (T := TX3) (N := 15) (ci := 3) (k := 12) hx hb hts hinX3 hown hK hH zk_0 (by decide) rfl (by decide) rfl (hN (.fieldLinkNest RX8 99 "Steamfield$Land" "wellCount" "I" "Steamfield") (by decide +kernel)) (fun _ h9 => h9) dX8_well_15 ?_
  refine lv_topi (fun x2 ex2 => ?_)
  have hx2 : x2 = nI (zc12 M) := by rw [ex2, hFx.c12]; exact z_Ok.c12 hOk0
  refine lv_bipush (v := 6) hx hb dX8_well_18 (by decide) ?_
  refine z_cSv (D := (dC, dI)) (cl := vwCl) (tys := zt ca) (nw := zw_nest) (As := [.int x2, .int 6]) (rest := []) ⟨hx, hb, hml, hown, hts⟩ (m_X8_needRoom l dC dI ca (fun z : Heap => z = H)  x2 6 (z_rm_of h_room hx2 rfl (by decide))) (cwS 2 hts gX8_well_X8_needRoom rfl rfl rfl (by decide +kernel) ⟨Nat.le_of_ble_eq_true rfl, Nat.le_of_ble_eq_true rfl⟩) rfl hK hN zw_nest_ok rfl hl.1 rfl (Nat.le_of_ble_eq_true rfl) dX8_well_20 ⟨Nat.le_refl _, Nat.le_refl _⟩ hS (fun _ h => h.elim) (fun H locs hB1 oq1 hz1 hS => ?_)
  have hT : zT dC dI ca sf (ad 0) (ad2 0) H := by rw [hB1]; exact hT
  have hH : zW dC dI ca ad M H := by rw [hB1]; exact hH
  have hG : zW dC dI ca ad2 N H := by rw [hB1]; exact hG
  refine lv_aload_n hx hb dX8_well_23 rfl (lv_at hl 0 rfl) ?_
  refine z_gS (k := 0) (v := ad 0) hx hb hts hinX8 hown hK hT (by decide) rfl (hts (.fieldLink RX8 10 "Steamfield" "land" "LSteamfield$Land;") (by decide +kernel)) (fun _ h9 => h9) dX8_well_24 ?_
  refine z_giN (D := (dC, dI)) (cl := vwCl) (C := RX3) (T := TX3) (N := 15) (ci := 3) (k := 12) hx hb hts hinX3 hown hK hH zk_0 (by decide) rfl (by decide) rfl (hN (.fieldLinkNest RX8 99 "Steamfield$Land" "wellCount" "I" "Steamfield") (by decide +kernel)) (fun _ h9 => h9) dX8_well_27 ?_
  refine lv_topi (fun x3 ex3 => ?_)
  have hx3 : x3 = nI (zc12 M) := by rw [ex3, hFx.c12]; exact z_Ok.c12 hOk0
  refine lv_istore_n (lv' := [(3, .int x3), (0, .ref sf), (1, .int a0), (2, .int a1)]) hx hb dX8_well_30 rfl hl (by decide) rfl (fun ls hl => ?_)
  refine lv_aload_n hx hb dX8_well_31 rfl (lv_at hl 1 rfl) ?_
  refine z_gS (k := 0) (v := ad 0) hx hb hts hinX8 hown hK hT (by decide) rfl (hts (.fieldLink RX8 10 "Steamfield" "land" "LSteamfield$Land;") (by decide +kernel)) (fun _ h9 => h9) dX8_well_32 ?_
  refine z_grN (D := (dC, dI)) (cl := vwCl) (C := RX3) (T := TX3) (N := 15) (ci := 3) (k := 2) hx hb hts hinX3 hown hK hH zk_0 (by decide) rfl (by decide) rfl (zr_0 (k := 2) (by decide)) (hN (.fieldLinkNest RX8 102 "Steamfield$Land" "wells" "[LSteamfield$Well;" "Steamfield") (by decide +kernel)) (fun _ h9 => h9) dX8_well_35 ?_
  refine lv_iload_n hx hb dX8_well_38 rfl (lv_at hl 0 rfl) ?_
  refine z_aq (t0 := 3) (D := (dC, dI)) (cl := vwCl) (tys := zt ca) hx hb hK hH zk_3 (by decide) (by decide) rfl (show vp_in x3 6 from (z_ix.in (⟨_, h_room, Nat.lt_trans h_room (by decide), hx3⟩ : z_ix x3 6))) (show zr 3 (x3 : Int32).toNatClampNeg = some (60 + x3.toNatClampNeg) from zr_3 (z_ix.lt (⟨_, h_room, Nat.lt_trans h_room (by decide), hx3⟩ : z_ix x3 6))) dX8_well_39 ?_
  refine lv_astore (lv' := [(4, .ref (ad (60 + x3.toNatClampNeg))), (3, .int x3), (0, .ref sf), (1, .int a0), (2, .int a1)]) hx hb dX8_well_40 hl (by decide) rfl (fun ls hl => ?_)
  refine lv_aload hx hb dX8_well_42 (lv_at hl 0 rfl) ?_
  refine lv_iload_n hx hb dX8_well_44 rfl (lv_at hl 3 rfl) ?_
  refine zp_iN (D := (dC, dI)) (cl := vwCl) (C := RX7) (T := TX7) (N := 9) (ci := 7) (k := 0) (ty := .int) hx hb hts hinX7 tyX7 tyX7_ok nmX7 hown hK hH hI hS (fun _ h => Or.inl h) (zk_v (z_ix.lt (⟨_, h_room, Nat.lt_trans h_room (by decide), hx3⟩ : z_ix x3 6))) (by decide) rfl (by decide) rfl (hN (.fieldLinkNest RX8 106 "Steamfield$Well" "block" "I" "Steamfield") (by decide +kernel)) (fun _ h9 => h9) rfl (by decide +kernel) rfl rfl dX8_well_45 (fun H locs hH oq hS => ?_)
  have hT := zT_u hT oq (hq.2.1 _ (zk_lt (zk_v (z_ix.lt (⟨_, h_room, Nat.lt_trans h_room (by decide), hx3⟩ : z_ix x3 6))) (by decide)))
  have hG := zW_u hG oq hq.x (zk_lt (zk_v (z_ix.lt (⟨_, h_room, Nat.lt_trans h_room (by decide), hx3⟩ : z_ix x3 6))) (by decide))
  obtain ⟨M4, hM4⟩ : ∃ z : zM, z = zu M (60 + x3.toNatClampNeg) 0 a0 := ⟨_, rfl⟩
  rw [← hM4] at hH
  refine lv_aload hx hb dX8_well_48 (lv_at hl 0 rfl) ?_
  refine lv_iload_n hx hb dX8_well_50 rfl (lv_at hl 4 rfl) ?_
  refine zp_iN (D := (dC, dI)) (cl := vwCl) (C := RX7) (T := TX7) (N := 9) (ci := 7) (k := 1) (ty := .boolean) hx hb hts hinX7 tyX7 tyX7_ok nmX7 hown hK hH hI hS (fun _ h => Or.inl h) (zk_v (z_ix.lt (⟨_, h_room, Nat.lt_trans h_room (by decide), hx3⟩ : z_ix x3 6))) (by decide) rfl (by decide) rfl (hN (.fieldLinkNest RX8 111 "Steamfield$Well" "isInjector" "Z" "Steamfield") (by decide +kernel)) (fun _ h9 => h9) rfl (by decide +kernel) (z_bn h_inj) (z_bf h_inj) dX8_well_51 (fun H locs hH oq hS => ?_)
  have hT := zT_u hT oq (hq.2.1 _ (zk_lt (zk_v (z_ix.lt (⟨_, h_room, Nat.lt_trans h_room (by decide), hx3⟩ : z_ix x3 6))) (by decide)))
  have hG := zW_u hG oq hq.x (zk_lt (zk_v (z_ix.lt (⟨_, h_room, Nat.lt_trans h_room (by decide), hx3⟩ : z_ix x3 6))) (by decide))
  obtain ⟨M5, hM5⟩ : ∃ z : zM, z = zu M4 (60 + x3.toNatClampNeg) 1 a1 := ⟨_, rfl⟩
  rw [← hM5] at hH
  refine lv_aload_n hx hb dX8_well_54 rfl (lv_at hl 2 rfl) ?_
  refine z_gS (k := 0) (v := ad 0) hx hb hts hinX8 hown hK hT (by decide) rfl (hts (.fieldLink RX8 10 "Steamfield" "land" "LSteamfield$Land;") (by decide +kernel)) (fun _ h9 => h9) dX8_well_55 ?_
  refine lv_iload_n hx hb dX8_well_58 rfl (lv_at hl 1 rfl) ?_
  refine lv_iconst (v := 1) hx hb dX8_well_59 (by decide) ?_
  refine lv_iadd hx hb dX8_well_60 ?_
  refine lv_topi (fun x6 ex6 => ?_)
  refine zp_iN (D := (dC, dI)) (cl := vwCl) (C := RX3) (T := TX3) (N := 15) (ci := 3) (k := 12) (ty := .int) hx hb hts hinX3 tyX3 tyX3_ok nmX3 hown hK hH hI hS (fun _ h => Or.inl h) zk_0 (by decide) rfl (by decide) rfl (hN (.fieldLinkNest RX8 99 "Steamfield$Land" "wellCount" "I" "Steamfield") (by decide +kernel)) (fun _ h9 => h9) rfl (by decide +kernel) rfl rfl dX8_well_61 (fun H locs hH oq hS => ?_)
  have hT := zT_u hT oq (hq.2.1 _ (zk_lt zk_0 (by decide)))
  have hG := zW_u hG oq hq.x (zk_lt zk_0 (by decide))
  obtain ⟨M7, hM7⟩ : ∃ z : zM, z = zu M5 0 12 x6 := ⟨_, rfl⟩
  rw [← hM7] at hH
  refine lv_iload_n hx hb dX8_well_64 rfl (lv_at hl 1 rfl) ?_
  have hF0 : zW dC dI ca ad (fX8_well M N a0 a1) H := by
    have e9 : M7 = (fX8_well M N a0 a1) := by subst hM7; subst ex6; subst hM5; subst hM4; subst ex3; subst ex2; subst ex1; rfl
    rw [← e9]; exact hH
  have hR : x3 = rX8_well M N a0 a1 := by subst hM7; subst ex6; subst hM5; subst hM4; subst ex3; subst ex2; subst ex1; rfl
  exact W.iret (v := x3) hx hb hr (fun t ht hW => ⟨⟨x3, (), rfl, hR, z_to (B := fun H => zT dC dI ca sf (ad 0) (ad2 0) H ∧ zW dC dI ca ad (fX8_well M N a0 a1) H ∧ zW dC dI ca ad2 N H) ht ⟨hT, hF0, hG⟩⟩, hS.F ht⟩) hS.2.2 dX8_well_65

def fX8_spring (M : zM) (N : zM) (a0 : Int32) (a1 : Int32) (a2 : Int32) : zM :=
  let x1 : Int32 := M 0 10
  let x2 : Int32 := M 0 13
  let x3 : Int32 := M 0 13
  let M4 : zM := zu M (70 + x3.toNatClampNeg) 0 a0
  let M5 : zM := zu M4 (70 + x3.toNatClampNeg) 1 a1
  let M6 : zM := zu M5 (70 + x3.toNatClampNeg) 2 a2
  let x7 : Int32 := x3 + 1
  let M8 : zM := zu M6 0 13 x7
  M8
def rX8_spring (M : zM) (N : zM) (a0 : Int32) (a1 : Int32) (a2 : Int32) : Int32 :=
  let x1 : Int32 := M 0 10
  let x2 : Int32 := M 0 13
  let x3 : Int32 := M 0 13
  let M4 : zM := zu M (70 + x3.toNatClampNeg) 0 a0
  let M5 : zM := zu M4 (70 + x3.toNatClampNeg) 1 a1
  let M6 : zM := zu M5 (70 + x3.toNatClampNeg) 2 a2
  let x7 : Int32 := x3 + 1
  let M8 : zM := zu M6 0 13 x7
  x3
set_option maxHeartbeats 4000000 in
set_option maxRecDepth 100000 in
theorem m_X8_spring (l : Launch) (dC : Nat → ClassId) (dI : Nat → Nat → Nat) (ca : Nat → ClassId) (sf : Nat) (ad : Nat → Nat) (hI : z_I zd ad) (ad2 : Nat → Nat) (hI2 : z_I zd ad2) (hq : zSep sf ad ad2) (M : zM) (N : zM) (a0 : Int32) (a1 : Int32) (a2 : Int32) (hOk0 : z_Ok M) (h_a0 : z_ix a0 (zc10 M)) (r_a1 : z_rg a1 0 300) (r_a2 : z_rg a2 0 50) (h_room : zc13 M < 3) : Met l yX8_spring wsX8_spring ({ frames := 1, cells := 0, slots := 0, locals := 22 }) (z_Pc (dC, dI) vwCl (zt ca) zw_nest [.ref sf, .int a0, .int a1, .int a2] (fun H => zT dC dI ca sf (ad 0) (ad2 0) H ∧ zW dC dI ca ad M H ∧ zW dC dI ca ad2 N H)) (z_Qi (rX8_spring M N a0 a1 a2) (fun H => zT dC dI ca sf (ad 0) (ad2 0) H ∧ zW dC dI ca ad (fX8_spring M N a0 a1 a2) H ∧ zW dC dI ca ad2 N H) (zA2 ad ad2)) 0 0 (zA2 ad ad2) := by
  refine Met.ofW (cc := cX8_spring) (maxL := 6) (ret := (some .int)) (by decide) rfl ?_
  intro p e s m args below meth c s₁ B9 hml hv
  obtain ⟨rfl, ⟨hT, hH, hG⟩, hK, hN⟩ := hv
  have hx := B9.exec
  have hb := B9.bytes
  have hr := B9.returns
  have hts := atoms_spec (ws := wsX8_spring) B9.pre
  have hown : s.vm.findClass RX8 = some m.cls := findClass_of_methodNamed B9.named
  have hlocks := B9.notSynchronized
  have hS : va_S (zA2 ad ad2) s.heap s.heap [] := va_S.rf
  have hOk := hOk0
  have hFx : z_Fx M M := z_Fx.rf
  have hT : zT dC dI ca sf (ad 0) (ad2 0) s.heap := hT
  have hH : zW dC dI ca ad M s.heap := hH
  have hG : zW dC dI ca ad2 N s.heap := hG
  have hinX3 : ∀ w ∈ u_ws RX3 TX3 15, w ∈ wsX8_spring := by decide +kernel
  have hinX5 : ∀ w ∈ u_ws RX5 TX5 7, w ∈ wsX8_spring := by decide +kernel
  have hinX8 : ∀ w ∈ u_ws RX8 TX8 2, w ∈ wsX8_spring := by decide +kernel
  have hl := lv_entry ([.ref sf, .int a0, .int a1, .int a2]) (n := 6) (Nat.le_of_ble_eq_true rfl)
  rw [lg_entry_eq]
  generalize (lg_sl ([.ref sf, .int a0, .int a1, .int a2]) ++ List.replicate (6 - (lg_sl ([.ref sf, .int a0, .int a1, .int a2])).length) Slot.unset).toArray = ls at hl ⊢
  have hl : lv_has ls 6 [(0, .ref sf), (1, .int a0), (2, .int a1), (3, .int a2)] := hl
  refine lv_iload_n hx hb dX8_spring_0 rfl (lv_at hl 1 rfl) ?_
  refine lv_aload_n hx hb dX8_spring_1 rfl (lv_at hl 0 rfl) ?_
  refine z_gS (k := 0) (v := ad 0) hx hb hts hinX8 hown hK hT (by decide) rfl (hts (.fieldLink RX8 10 "Steamfield" "land" "LSteamfield$Land;") (by decide +kernel)) (fun _ h9 => h9) dX8_spring_2 ?_
  refine z_giN (D := (dC, dI)) (cl := vwCl) (C := RX3) (T := TX3) (N := 15) (ci := 3) (k := 10) hx hb hts hinX3 hown hK hH zk_0 (by decide) rfl (by decide) rfl (hN (.fieldLinkNest RX8 23 "Steamfield$Land" "blockCount" "I" "Steamfield") (by decide +kernel)) (fun _ h9 => h9) dX8_spring_5 ?_
  refine lv_topi (fun x1 ex1 => ?_)
  have hx1 : x1 = nI (zc10 M) := by rw [ex1, hFx.c10]; exact z_Ok.c10 hOk0
  refine z_cSv (D := (dC, dI)) (cl := vwCl) (tys := zt ca) (nw := zw_nest) (As := [.int a0, .int x1]) (rest := []) ⟨hx, hb, hml, hown, hts⟩ (m_X8_needIndex l dC dI ca (fun z : Heap => z = s.heap)  a0 x1 (z_ni_of h_a0 hx1 (Nat.lt_of_le_of_lt (z_Ok.n10 hOk0) (by decide)))) (cwS 2 hts gX8_spring_X8_needIndex rfl rfl rfl (by decide +kernel) ⟨Nat.le_of_ble_eq_true rfl, Nat.le_of_ble_eq_true rfl⟩) rfl hK hN zw_nest_ok rfl hl.1 rfl (Nat.le_of_ble_eq_true rfl) dX8_spring_8 ⟨Nat.le_refl _, Nat.le_refl _⟩ hS (fun _ h => h.elim) (fun H locs hB1 oq1 hz1 hS => ?_)
  have hT : zT dC dI ca sf (ad 0) (ad2 0) H := by rw [hB1]; exact hT
  have hH : zW dC dI ca ad M H := by rw [hB1]; exact hH
  have hG : zW dC dI ca ad2 N H := by rw [hB1]; exact hG
  refine lv_iload_n hx hb dX8_spring_11 rfl (lv_at hl 2 rfl) ?_
  refine lv_iconst (v := 0) hx hb dX8_spring_12 (by decide) ?_
  refine lv_sipush (v := 300) hx hb dX8_spring_13 (by decide) ?_
  refine z_cSv (D := (dC, dI)) (cl := vwCl) (tys := zt ca) (nw := zw_nest) (As := [.int a1, .int 0, .int 300]) (rest := []) ⟨hx, hb, hml, hown, hts⟩ (m_X8_needRange l dC dI ca (fun z : Heap => z = H)  a1 0 300 r_a1) (cwS 3 hts gX8_spring_X8_needRange rfl rfl rfl (by decide +kernel) ⟨Nat.le_of_ble_eq_true rfl, Nat.le_of_ble_eq_true rfl⟩) rfl hK hN zw_nest_ok rfl hl.1 rfl (Nat.le_of_ble_eq_true rfl) dX8_spring_16 ⟨Nat.le_refl _, Nat.le_refl _⟩ hS (fun _ h => h.elim) (fun H locs hB1 oq1 hz1 hS => ?_)
  have hT : zT dC dI ca sf (ad 0) (ad2 0) H := by rw [hB1]; exact hT
  have hH : zW dC dI ca ad M H := by rw [hB1]; exact hH
  have hG : zW dC dI ca ad2 N H := by rw [hB1]; exact hG
  refine lv_iload_n hx hb dX8_spring_19 rfl (lv_at hl 3 rfl) ?_
  refine lv_iconst (v := 0) hx hb dX8_spring_20 (by decide) ?_
  refine lv_bipush (v := 50) hx hb dX8_spring_21 (by decide) ?_
  refine z_cSv (D := (dC, dI)) (cl := vwCl) (tys := zt ca) (nw := zw_nest) (As := [.int a2, .int 0, .int 50]) (rest := []) ⟨hx, hb, hml, hown, hts⟩ (m_X8_needRange l dC dI ca (fun z : Heap => z = H)  a2 0 50 r_a2) (cwS 3 hts gX8_spring_X8_needRange rfl rfl rfl (by decide +kernel) ⟨Nat.le_of_ble_eq_true rfl, Nat.le_of_ble_eq_true rfl⟩) rfl hK hN zw_nest_ok rfl hl.1 rfl (Nat.le_of_ble_eq_true rfl) dX8_spring_23 ⟨Nat.le_refl _, Nat.le_refl _⟩ hS (fun _ h => h.elim) (fun H locs hB1 oq1 hz1 hS => ?_)
  have hT : zT dC dI ca sf (ad 0) (ad2 0) H := by rw [hB1]; exact hT
  have hH : zW dC dI ca ad M H := by rw [hB1]; exact hH
  have hG : zW dC dI ca ad2 N H := by rw [hB1]; exact hG
  refine lv_aload_n hx hb dX8_spring_26 rfl (lv_at hl 0 rfl) ?_
  refine z_gS (k := 0) (v := ad 0) hx hb hts hinX8 hown hK hT (by decide) rfl (hts (.fieldLink RX8 10 "Steamfield" "land" "LSteamfield$Land;") (by decide +kernel)) (fun _ h9 => h9) dX8_spring_27 ?_
  refine z_giN (D := (dC, dI)) (cl := vwCl) (C := RX3) (T := TX3) (N := 15) (ci := 3) (k := 13) hx hb hts hinX3 hown hK hH zk_0 (by decide) rfl (by decide) rfl (hN (.fieldLinkNest RX8 115 "Steamfield$Land" "springCount" "I" "Steamfield") (by decide +kernel)) (fun _ h9 => h9) dX8_spring_30 ?_
  refine lv_topi (fun x2 ex2 => ?_)
  have hx2 : x2 = nI (zc13 M) := by rw [ex2, hFx.c13]; exact z_Ok.c13 hOk0
  refine lv_iconst (v := 3) hx hb dX8_spring_33 (by decide) ?_
  refine z_cSv (D := (dC, dI)) (cl := vwCl) (tys := zt ca) (nw := zw_nest) (As := [.int x2, .int 3]) (rest := []) ⟨hx, hb, hml, hown, hts⟩ (m_X8_needRoom l dC dI ca (fun z : Heap => z = H)  x2 3 (z_rm_of h_room hx2 rfl (by decide))) (cwS 2 hts gX8_spring_X8_needRoom rfl rfl rfl (by decide +kernel) ⟨Nat.le_of_ble_eq_true rfl, Nat.le_of_ble_eq_true rfl⟩) rfl hK hN zw_nest_ok rfl hl.1 rfl (Nat.le_of_ble_eq_true rfl) dX8_spring_34 ⟨Nat.le_refl _, Nat.le_refl _⟩ hS (fun _ h => h.elim) (fun H locs hB1 oq1 hz1 hS => ?_)
  have hT : zT dC dI ca sf (ad 0) (ad2 0) H := by rw [hB1]; exact hT
  have hH : zW dC dI ca ad M H := by rw [hB1]; exact hH
  have hG : zW dC dI ca ad2 N H := by rw [hB1]; exact hG
  refine lv_aload_n hx hb dX8_spring_37 rfl (lv_at hl 0 rfl) ?_
  refine z_gS (k := 0) (v := ad 0) hx hb hts hinX8 hown hK hT (by decide) rfl (hts (.fieldLink RX8 10 "Steamfield" "land" "LSteamfield$Land;") (by decide +kernel)) (fun _ h9 => h9) dX8_spring_38 ?_
  refine z_giN (D := (dC, dI)) (cl := vwCl) (C := RX3) (T := TX3) (N := 15) (ci := 3) (k := 13) hx hb hts hinX3 hown hK hH zk_0 (by decide) rfl (by decide) rfl (hN (.fieldLinkNest RX8 115 "Steamfield$Land" "springCount" "I" "Steamfield") (by decide +kernel)) (fun _ h9 => h9) dX8_spring_41 ?_
  refine lv_topi (fun x3 ex3 => ?_)
  have hx3 : x3 = nI (zc13 M) := by rw [ex3, hFx.c13]; exact z_Ok.c13 hOk0
  refine lv_istore (lv' := [(4, .int x3), (0, .ref sf), (1, .int a0), (2, .int a1), (3, .int a2)]) hx hb dX8_spring_44 hl (by decide) rfl (fun ls hl => ?_)
  refine lv_aload_n hx hb dX8_spring_46 rfl (lv_at hl 1 rfl) ?_
  refine z_gS (k := 0) (v := ad 0) hx hb hts hinX8 hown hK hT (by decide) rfl (hts (.fieldLink RX8 10 "Steamfield" "land" "LSteamfield$Land;") (by decide +kernel)) (fun _ h9 => h9) dX8_spring_47 ?_
  refine z_grN (D := (dC, dI)) (cl := vwCl) (C := RX3) (T := TX3) (N := 15) (ci := 3) (k := 3) hx hb hts hinX3 hown hK hH zk_0 (by decide) rfl (by decide) rfl (zr_0 (k := 3) (by decide)) (hN (.fieldLinkNest RX8 118 "Steamfield$Land" "springs" "[LSteamfield$Spring;" "Steamfield") (by decide +kernel)) (fun _ h9 => h9) dX8_spring_50 ?_
  refine lv_iload hx hb dX8_spring_53 (lv_at hl 0 rfl) ?_
  refine z_aq (t0 := 4) (D := (dC, dI)) (cl := vwCl) (tys := zt ca) hx hb hK hH zk_4 (by decide) (by decide) rfl (show vp_in x3 3 from (z_ix.in (⟨_, h_room, Nat.lt_trans h_room (by decide), hx3⟩ : z_ix x3 3))) (show zr 4 (x3 : Int32).toNatClampNeg = some (70 + x3.toNatClampNeg) from zr_4 (z_ix.lt (⟨_, h_room, Nat.lt_trans h_room (by decide), hx3⟩ : z_ix x3 3))) dX8_spring_55 ?_
  refine lv_astore (lv' := [(5, .ref (ad (70 + x3.toNatClampNeg))), (4, .int x3), (0, .ref sf), (1, .int a0), (2, .int a1), (3, .int a2)]) hx hb dX8_spring_56 hl (by decide) rfl (fun ls hl => ?_)
  refine lv_aload hx hb dX8_spring_58 (lv_at hl 0 rfl) ?_
  refine lv_iload_n hx hb dX8_spring_60 rfl (lv_at hl 3 rfl) ?_
  refine zp_iN (D := (dC, dI)) (cl := vwCl) (C := RX5) (T := TX5) (N := 7) (ci := 5) (k := 0) (ty := .int) hx hb hts hinX5 tyX5 tyX5_ok nmX5 hown hK hH hI hS (fun _ h => Or.inl h) (zk_s (z_ix.lt (⟨_, h_room, Nat.lt_trans h_room (by decide), hx3⟩ : z_ix x3 3))) (by decide) rfl (by decide) rfl (hN (.fieldLinkNest RX8 122 "Steamfield$Spring" "block" "I" "Steamfield") (by decide +kernel)) (fun _ h9 => h9) rfl (by decide +kernel) rfl rfl dX8_spring_61 (fun H locs hH oq hS => ?_)
  have hT := zT_u hT oq (hq.2.1 _ (zk_lt (zk_s (z_ix.lt (⟨_, h_room, Nat.lt_trans h_room (by decide), hx3⟩ : z_ix x3 3))) (by decide)))
  have hG := zW_u hG oq hq.x (zk_lt (zk_s (z_ix.lt (⟨_, h_room, Nat.lt_trans h_room (by decide), hx3⟩ : z_ix x3 3))) (by decide))
  obtain ⟨M4, hM4⟩ : ∃ z : zM, z = zu M (70 + x3.toNatClampNeg) 0 a0 := ⟨_, rfl⟩
  rw [← hM4] at hH
  refine lv_aload hx hb dX8_spring_64 (lv_at hl 0 rfl) ?_
  refine lv_iload_n hx hb dX8_spring_66 rfl (lv_at hl 4 rfl) ?_
  refine zp_iN (D := (dC, dI)) (cl := vwCl) (C := RX5) (T := TX5) (N := 7) (ci := 5) (k := 1) (ty := .int) hx hb hts hinX5 tyX5 tyX5_ok nmX5 hown hK hH hI hS (fun _ h => Or.inl h) (zk_s (z_ix.lt (⟨_, h_room, Nat.lt_trans h_room (by decide), hx3⟩ : z_ix x3 3))) (by decide) rfl (by decide) rfl (hN (.fieldLinkNest RX8 125 "Steamfield$Spring" "level" "I" "Steamfield") (by decide +kernel)) (fun _ h9 => h9) rfl (by decide +kernel) rfl rfl dX8_spring_67 (fun H locs hH oq hS => ?_)
  have hT := zT_u hT oq (hq.2.1 _ (zk_lt (zk_s (z_ix.lt (⟨_, h_room, Nat.lt_trans h_room (by decide), hx3⟩ : z_ix x3 3))) (by decide)))
  have hG := zW_u hG oq hq.x (zk_lt (zk_s (z_ix.lt (⟨_, h_room, Nat.lt_trans h_room (by decide), hx3⟩ : z_ix x3 3))) (by decide))
  obtain ⟨M5, hM5⟩ : ∃ z : zM, z = zu M4 (70 + x3.toNatClampNeg) 1 a1 := ⟨_, rfl⟩
  rw [← hM5] at hH
  refine lv_aload hx hb dX8_spring_70 (lv_at hl 0 rfl) ?_
  refine lv_iload_n hx hb dX8_spring_72 rfl (lv_at hl 5 rfl) ?_
  refine zp_iN (D := (dC, dI)) (cl := vwCl) (C := RX5) (T := TX5) (N := 7) (ci := 5) (k := 2) (ty := .int) hx hb hts hinX5 tyX5 tyX5_ok nmX5 hown hK hH hI hS (fun _ h => Or.inl h) (zk_s (z_ix.lt (⟨_, h_room, Nat.lt_trans h_room (by decide), hx3⟩ : z_ix x3 3))) (by decide) rfl (by decide) rfl (hN (.fieldLinkNest RX8 128 "Steamfield$Spring" "promise" "I" "Steamfield") (by decide +kernel)) (fun _ h9 => h9) rfl (by decide +kernel) rfl rfl dX8_spring_73 (fun H locs hH oq hS => ?_)
  have hT := zT_u hT oq (hq.2.1 _ (zk_lt (zk_s (z_ix.lt (⟨_, h_room, Nat.lt_trans h_room (by decide), hx3⟩ : z_ix x3 3))) (by decide)))
  have hG := zW_u hG oq hq.x (zk_lt (zk_s (z_ix.lt (⟨_, h_room, Nat.lt_trans h_room (by decide), hx3⟩ : z_ix x3 3))) (by decide))
  obtain ⟨M6, hM6⟩ : ∃ z : zM, z = zu M5 (70 + x3.toNatClampNeg) 2 a2 := ⟨_, rfl⟩
  rw [← hM6] at hH
  refine lv_aload_n hx hb dX8_spring_76 rfl (lv_at hl 2 rfl) ?_
  refine z_gS (k := 0) (v := ad 0) hx hb hts hinX8 hown hK hT (by decide) rfl (hts (.fieldLink RX8 10 "Steamfield" "land" "LSteamfield$Land;") (by decide +kernel)) (fun _ h9 => h9) dX8_spring_77 ?_
  refine lv_iload hx hb dX8_spring_80 (lv_at hl 1 rfl) ?_
  refine lv_iconst (v := 1) hx hb dX8_spring_82 (by decide) ?_
  refine lv_iadd hx hb dX8_spring_83 ?_
  refine lv_topi (fun x7 ex7 => ?_)
  refine zp_iN (D := (dC, dI)) (cl := vwCl) (C := RX3) (T := TX3) (N := 15) (ci := 3) (k := 13) (ty := .int) hx hb hts hinX3 tyX3 tyX3_ok nmX3 hown hK hH hI hS (fun _ h => Or.inl h) zk_0 (by decide) rfl (by decide) rfl (hN (.fieldLinkNest RX8 115 "Steamfield$Land" "springCount" "I" "Steamfield") (by decide +kernel)) (fun _ h9 => h9) rfl (by decide +kernel) rfl rfl dX8_spring_84 (fun H locs hH oq hS => ?_)
  have hT := zT_u hT oq (hq.2.1 _ (zk_lt zk_0 (by decide)))
  have hG := zW_u hG oq hq.x (zk_lt zk_0 (by decide))
  obtain ⟨M8, hM8⟩ : ∃ z : zM, z = zu M6 0 13 x7 := ⟨_, rfl⟩
  rw [← hM8] at hH
  refine lv_iload hx hb dX8_spring_87 (lv_at hl 1 rfl) ?_
  have hF0 : zW dC dI ca ad (fX8_spring M N a0 a1 a2) H := by
    have e9 : M8 = (fX8_spring M N a0 a1 a2) := by subst hM8; subst ex7; subst hM6; subst hM5; subst hM4; subst ex3; subst ex2; subst ex1; rfl
    rw [← e9]; exact hH
  have hR : x3 = rX8_spring M N a0 a1 a2 := by subst hM8; subst ex7; subst hM6; subst hM5; subst hM4; subst ex3; subst ex2; subst ex1; rfl
  exact W.iret (v := x3) hx hb hr (fun t ht hW => ⟨⟨x3, (), rfl, hR, z_to (B := fun H => zT dC dI ca sf (ad 0) (ad2 0) H ∧ zW dC dI ca ad (fX8_spring M N a0 a1 a2) H ∧ zW dC dI ca ad2 N H) ht ⟨hT, hF0, hG⟩⟩, hS.F ht⟩) hS.2.2 dX8_spring_89

def fX8_valve (M : zM) (N : zM) (a0 : Int32) (a1 : Int32) : zM :=
  let x1 : Int32 := M 0 12
  let x2 : Int32 := M (60 + a0.toNatClampNeg) 2
  let M3 : zM := zu M (60 + a0.toNatClampNeg) 2 a1
  M3
def rX8_valve (M : zM) (N : zM) (a0 : Int32) (a1 : Int32) : Int32 :=
  let x1 : Int32 := M 0 12
  let x2 : Int32 := M (60 + a0.toNatClampNeg) 2
  let M3 : zM := zu M (60 + a0.toNatClampNeg) 2 a1
  x2
set_option maxHeartbeats 4000000 in
set_option maxRecDepth 100000 in
theorem m_X8_valve (l : Launch) (dC : Nat → ClassId) (dI : Nat → Nat → Nat) (ca : Nat → ClassId) (sf : Nat) (ad : Nat → Nat) (hI : z_I zd ad) (ad2 : Nat → Nat) (hI2 : z_I zd ad2) (hq : zSep sf ad ad2) (M : zM) (N : zM) (a0 : Int32) (a1 : Int32) (hOk0 : z_Ok M) (h_a0 : z_ix a0 (zc12 M)) (r_a1 : z_rg a1 0 9) : Met l yX8_valve wsX8_valve ({ frames := 1, cells := 0, slots := 0, locals := 22 }) (z_Pc (dC, dI) vwCl (zt ca) zw_nest [.ref sf, .int a0, .int a1] (fun H => zT dC dI ca sf (ad 0) (ad2 0) H ∧ zW dC dI ca ad M H ∧ zW dC dI ca ad2 N H)) (z_Qi (rX8_valve M N a0 a1) (fun H => zT dC dI ca sf (ad 0) (ad2 0) H ∧ zW dC dI ca ad (fX8_valve M N a0 a1) H ∧ zW dC dI ca ad2 N H ∧ z_Fx M (fX8_valve M N a0 a1)) (zA2 ad ad2)) 0 0 (zA2 ad ad2) := by
  refine Met.ofW (cc := cX8_valve) (maxL := 4) (ret := (some .int)) (by decide) rfl ?_
  intro p e s m args below meth c s₁ B9 hml hv
  obtain ⟨rfl, ⟨hT, hH, hG⟩, hK, hN⟩ := hv
  have hx := B9.exec
  have hb := B9.bytes
  have hr := B9.returns
  have hts := atoms_spec (ws := wsX8_valve) B9.pre
  have hown : s.vm.findClass RX8 = some m.cls := findClass_of_methodNamed B9.named
  have hlocks := B9.notSynchronized
  have hS : va_S (zA2 ad ad2) s.heap s.heap [] := va_S.rf
  have hOk := hOk0
  have hFx : z_Fx M M := z_Fx.rf
  have hT : zT dC dI ca sf (ad 0) (ad2 0) s.heap := hT
  have hH : zW dC dI ca ad M s.heap := hH
  have hG : zW dC dI ca ad2 N s.heap := hG
  have hinX3 : ∀ w ∈ u_ws RX3 TX3 15, w ∈ wsX8_valve := by decide +kernel
  have hinX7 : ∀ w ∈ u_ws RX7 TX7 9, w ∈ wsX8_valve := by decide +kernel
  have hinX8 : ∀ w ∈ u_ws RX8 TX8 2, w ∈ wsX8_valve := by decide +kernel
  have hl := lv_entry ([.ref sf, .int a0, .int a1]) (n := 4) (Nat.le_of_ble_eq_true rfl)
  rw [lg_entry_eq]
  generalize (lg_sl ([.ref sf, .int a0, .int a1]) ++ List.replicate (4 - (lg_sl ([.ref sf, .int a0, .int a1])).length) Slot.unset).toArray = ls at hl ⊢
  have hl : lv_has ls 4 [(0, .ref sf), (1, .int a0), (2, .int a1)] := hl
  refine lv_iload_n hx hb dX8_valve_0 rfl (lv_at hl 1 rfl) ?_
  refine lv_aload_n hx hb dX8_valve_1 rfl (lv_at hl 0 rfl) ?_
  refine z_gS (k := 0) (v := ad 0) hx hb hts hinX8 hown hK hT (by decide) rfl (hts (.fieldLink RX8 10 "Steamfield" "land" "LSteamfield$Land;") (by decide +kernel)) (fun _ h9 => h9) dX8_valve_2 ?_
  refine z_giN (D := (dC, dI)) (cl := vwCl) (C := RX3) (T := TX3) (N := 15) (ci := 3) (k := 12) hx hb hts hinX3 hown hK hH zk_0 (by decide) rfl (by decide) rfl (hN (.fieldLinkNest RX8 99 "Steamfield$Land" "wellCount" "I" "Steamfield") (by decide +kernel)) (fun _ h9 => h9) dX8_valve_5 ?_
  refine lv_topi (fun x1 ex1 => ?_)
  have hx1 : x1 = nI (zc12 M) := by rw [ex1, hFx.c12]; exact z_Ok.c12 hOk0
  refine z_cSv (D := (dC, dI)) (cl := vwCl) (tys := zt ca) (nw := zw_nest) (As := [.int a0, .int x1]) (rest := []) ⟨hx, hb, hml, hown, hts⟩ (m_X8_needIndex l dC dI ca (fun z : Heap => z = s.heap)  a0 x1 (z_ni_of h_a0 hx1 (Nat.lt_of_le_of_lt (z_Ok.n12 hOk0) (by decide)))) (cwS 2 hts gX8_valve_X8_needIndex rfl rfl rfl (by decide +kernel) ⟨Nat.le_of_ble_eq_true rfl, Nat.le_of_ble_eq_true rfl⟩) rfl hK hN zw_nest_ok rfl hl.1 rfl (Nat.le_of_ble_eq_true rfl) dX8_valve_8 ⟨Nat.le_refl _, Nat.le_refl _⟩ hS (fun _ h => h.elim) (fun H locs hB1 oq1 hz1 hS => ?_)
  have hT : zT dC dI ca sf (ad 0) (ad2 0) H := by rw [hB1]; exact hT
  have hH : zW dC dI ca ad M H := by rw [hB1]; exact hH
  have hG : zW dC dI ca ad2 N H := by rw [hB1]; exact hG
  refine lv_iload_n hx hb dX8_valve_11 rfl (lv_at hl 2 rfl) ?_
  refine lv_iconst (v := 0) hx hb dX8_valve_12 (by decide) ?_
  refine lv_bipush (v := 9) hx hb dX8_valve_13 (by decide) ?_
  refine z_cSv (D := (dC, dI)) (cl := vwCl) (tys := zt ca) (nw := zw_nest) (As := [.int a1, .int 0, .int 9]) (rest := []) ⟨hx, hb, hml, hown, hts⟩ (m_X8_needRange l dC dI ca (fun z : Heap => z = H)  a1 0 9 r_a1) (cwS 3 hts gX8_valve_X8_needRange rfl rfl rfl (by decide +kernel) ⟨Nat.le_of_ble_eq_true rfl, Nat.le_of_ble_eq_true rfl⟩) rfl hK hN zw_nest_ok rfl hl.1 rfl (Nat.le_of_ble_eq_true rfl) dX8_valve_15 ⟨Nat.le_refl _, Nat.le_refl _⟩ hS (fun _ h => h.elim) (fun H locs hB1 oq1 hz1 hS => ?_)
  have hT : zT dC dI ca sf (ad 0) (ad2 0) H := by rw [hB1]; exact hT
  have hH : zW dC dI ca ad M H := by rw [hB1]; exact hH
  have hG : zW dC dI ca ad2 N H := by rw [hB1]; exact hG
  refine lv_aload_n hx hb dX8_valve_18 rfl (lv_at hl 0 rfl) ?_
  refine z_gS (k := 0) (v := ad 0) hx hb hts hinX8 hown hK hT (by decide) rfl (hts (.fieldLink RX8 10 "Steamfield" "land" "LSteamfield$Land;") (by decide +kernel)) (fun _ h9 => h9) dX8_valve_19 ?_
  refine z_grN (D := (dC, dI)) (cl := vwCl) (C := RX3) (T := TX3) (N := 15) (ci := 3) (k := 2) hx hb hts hinX3 hown hK hH zk_0 (by decide) rfl (by decide) rfl (zr_0 (k := 2) (by decide)) (hN (.fieldLinkNest RX8 102 "Steamfield$Land" "wells" "[LSteamfield$Well;" "Steamfield") (by decide +kernel)) (fun _ h9 => h9) dX8_valve_22 ?_
  refine lv_iload_n hx hb dX8_valve_25 rfl (lv_at hl 1 rfl) ?_
  refine z_aq (t0 := 3) (D := (dC, dI)) (cl := vwCl) (tys := zt ca) hx hb hK hH zk_3 (by decide) (by decide) rfl (show vp_in a0 6 from (z_ix.in (z_ix.mono h_a0 (z_Ok.n12 hOk0)))) (show zr 3 (a0 : Int32).toNatClampNeg = some (60 + a0.toNatClampNeg) from zr_3 (z_ix.lt (z_ix.mono h_a0 (z_Ok.n12 hOk0)))) dX8_valve_26 ?_
  refine z_giN (D := (dC, dI)) (cl := vwCl) (C := RX7) (T := TX7) (N := 9) (ci := 7) (k := 2) hx hb hts hinX7 hown hK hH (zk_v (z_ix.lt (z_ix.mono h_a0 (z_Ok.n12 hOk0)))) (by decide) rfl (by decide) rfl (hN (.fieldLinkNest RX8 131 "Steamfield$Well" "valve" "I" "Steamfield") (by decide +kernel)) (fun _ h9 => h9) dX8_valve_27 ?_
  refine lv_topi (fun x2 ex2 => ?_)
  refine lv_istore_n (lv' := [(3, .int x2), (0, .ref sf), (1, .int a0), (2, .int a1)]) hx hb dX8_valve_30 rfl hl (by decide) rfl (fun ls hl => ?_)
  refine lv_aload_n hx hb dX8_valve_31 rfl (lv_at hl 1 rfl) ?_
  refine z_gS (k := 0) (v := ad 0) hx hb hts hinX8 hown hK hT (by decide) rfl (hts (.fieldLink RX8 10 "Steamfield" "land" "LSteamfield$Land;") (by decide +kernel)) (fun _ h9 => h9) dX8_valve_32 ?_
  refine z_grN (D := (dC, dI)) (cl := vwCl) (C := RX3) (T := TX3) (N := 15) (ci := 3) (k := 2) hx hb hts hinX3 hown hK hH zk_0 (by decide) rfl (by decide) rfl (zr_0 (k := 2) (by decide)) (hN (.fieldLinkNest RX8 102 "Steamfield$Land" "wells" "[LSteamfield$Well;" "Steamfield") (by decide +kernel)) (fun _ h9 => h9) dX8_valve_35 ?_
  refine lv_iload_n hx hb dX8_valve_38 rfl (lv_at hl 2 rfl) ?_
  refine z_aq (t0 := 3) (D := (dC, dI)) (cl := vwCl) (tys := zt ca) hx hb hK hH zk_3 (by decide) (by decide) rfl (show vp_in a0 6 from (z_ix.in (z_ix.mono h_a0 (z_Ok.n12 hOk0)))) (show zr 3 (a0 : Int32).toNatClampNeg = some (60 + a0.toNatClampNeg) from zr_3 (z_ix.lt (z_ix.mono h_a0 (z_Ok.n12 hOk0)))) dX8_valve_39 ?_
  refine lv_iload_n hx hb dX8_valve_40 rfl (lv_at hl 3 rfl) ?_
  refine zp_iN (D := (dC, dI)) (cl := vwCl) (C := RX7) (T := TX7) (N := 9) (ci := 7) (k := 2) (ty := .int) hx hb hts hinX7 tyX7 tyX7_ok nmX7 hown hK hH hI hS (fun _ h => Or.inl h) (zk_v (z_ix.lt (z_ix.mono h_a0 (z_Ok.n12 hOk0)))) (by decide) rfl (by decide) rfl (hN (.fieldLinkNest RX8 131 "Steamfield$Well" "valve" "I" "Steamfield") (by decide +kernel)) (fun _ h9 => h9) rfl (by decide +kernel) rfl rfl dX8_valve_41 (fun H locs hH oq hS => ?_)
  have hT := zT_u hT oq (hq.2.1 _ (zk_lt (zk_v (z_ix.lt (z_ix.mono h_a0 (z_Ok.n12 hOk0)))) (by decide)))
  have hG := zW_u hG oq hq.x (zk_lt (zk_v (z_ix.lt (z_ix.mono h_a0 (z_Ok.n12 hOk0)))) (by decide))
  obtain ⟨M3, hM3⟩ : ∃ z : zM, z = zu M (60 + a0.toNatClampNeg) 2 a1 := ⟨_, rfl⟩
  rw [← hM3] at hH
  have hFx : z_Fx M M3 := hFx.tr (by rw [hM3]; exact (z_Fx.u (zk_v (z_ix.lt (z_ix.mono h_a0 (z_Ok.n12 hOk0)))) rfl))
  have hOk : z_Ok M3 := hOk0.fx hFx
  refine lv_iload_n hx hb dX8_valve_44 rfl (lv_at hl 0 rfl) ?_
  have hF0 : zW dC dI ca ad (fX8_valve M N a0 a1) H := by
    have e9 : M3 = (fX8_valve M N a0 a1) := by subst hM3; subst ex2; subst ex1; rfl
    rw [← e9]; exact hH
  have hFF : z_Fx M (fX8_valve M N a0 a1) := by
    have e9 : M3 = (fX8_valve M N a0 a1) := by subst hM3; subst ex2; subst ex1; rfl
    rw [← e9]; exact hFx
  have hR : x2 = rX8_valve M N a0 a1 := by subst hM3; subst ex2; subst ex1; rfl
  exact W.iret (v := x2) hx hb hr (fun t ht hW => ⟨⟨x2, (), rfl, hR, z_to (B := fun H => zT dC dI ca sf (ad 0) (ad2 0) H ∧ zW dC dI ca ad (fX8_valve M N a0 a1) H ∧ zW dC dI ca ad2 N H ∧ z_Fx M (fX8_valve M N a0 a1)) ht ⟨hT, hF0, hG, hFF⟩⟩, hS.F ht⟩) hS.2.2 dX8_valve_45

def fX8_trace (M : zM) (N : zM) (a0 : Int32) (a1 : Int32) : zM :=
  let x1 : Int32 := M 0 12
  let x2 : Int32 := M (60 + a0.toNatClampNeg) 0
  let x3 : Int32 := M (30 + x2.toNatClampNeg) 0
  let x5 : Int32 := M (30 + x2.toNatClampNeg) 3
  let x6 : Int32 := x5 + a1
  let M7 : zM := zu M (30 + x2.toNatClampNeg) 3 x6
  let x8 : Int32 := M7 11 3
  let x9 : Int32 := x8 + a1
  let M10 : zM := zu M7 11 3 x9
  let x11 : Int32 := M10 (30 + x2.toNatClampNeg) 3
  M10
def rX8_trace (M : zM) (N : zM) (a0 : Int32) (a1 : Int32) : Int32 :=
  let x1 : Int32 := M 0 12
  let x2 : Int32 := M (60 + a0.toNatClampNeg) 0
  let x3 : Int32 := M (30 + x2.toNatClampNeg) 0
  let x5 : Int32 := M (30 + x2.toNatClampNeg) 3
  let x6 : Int32 := x5 + a1
  let M7 : zM := zu M (30 + x2.toNatClampNeg) 3 x6
  let x8 : Int32 := M7 11 3
  let x9 : Int32 := x8 + a1
  let M10 : zM := zu M7 11 3 x9
  let x11 : Int32 := M10 (30 + x2.toNatClampNeg) 3
  x11
set_option maxHeartbeats 4000000 in
set_option maxRecDepth 100000 in
theorem m_X8_trace (l : Launch) (dC : Nat → ClassId) (dI : Nat → Nat → Nat) (ca : Nat → ClassId) (sf : Nat) (ad : Nat → Nat) (hI : z_I zd ad) (ad2 : Nat → Nat) (hI2 : z_I zd ad2) (hq : zSep sf ad ad2) (M : zM) (N : zM) (a0 : Int32) (a1 : Int32) (hOk0 : z_Ok M) (h_a0 : z_ix a0 (zc12 M)) (r_a1 : z_rg a1 1 999) (h_m : ¬ M (30 + (M (60 + a0.toNatClampNeg) 0).toNatClampNeg) 0 ≤ 0) : Met l yX8_trace wsX8_trace ({ frames := 1, cells := 0, slots := 0, locals := 22 }) (z_Pc (dC, dI) vwCl (zt ca) zw_nest [.ref sf, .int a0, .int a1] (fun H => zT dC dI ca sf (ad 0) (ad2 0) H ∧ zW dC dI ca ad M H ∧ zW dC dI ca ad2 N H)) (z_Qi (rX8_trace M N a0 a1) (fun H => zT dC dI ca sf (ad 0) (ad2 0) H ∧ zW dC dI ca ad (fX8_trace M N a0 a1) H ∧ zW dC dI ca ad2 N H ∧ z_Fx M (fX8_trace M N a0 a1)) (zA2 ad ad2)) 0 0 (zA2 ad ad2) := by
  refine Met.ofW (cc := cX8_trace) (maxL := 4) (ret := (some .int)) (by decide) rfl ?_
  intro p e s m args below meth c s₁ B9 hml hv
  obtain ⟨rfl, ⟨hT, hH, hG⟩, hK, hN⟩ := hv
  have hx := B9.exec
  have hb := B9.bytes
  have hr := B9.returns
  have hts := atoms_spec (ws := wsX8_trace) B9.pre
  have hown : s.vm.findClass RX8 = some m.cls := findClass_of_methodNamed B9.named
  have hlocks := B9.notSynchronized
  have hS : va_S (zA2 ad ad2) s.heap s.heap [] := va_S.rf
  have hOk := hOk0
  have hFx : z_Fx M M := z_Fx.rf
  have hT : zT dC dI ca sf (ad 0) (ad2 0) s.heap := hT
  have hH : zW dC dI ca ad M s.heap := hH
  have hG : zW dC dI ca ad2 N s.heap := hG
  have hinX0 : ∀ w ∈ u_ws RX0 TX0 3, w ∈ wsX8_trace := by decide +kernel
  have hinX1 : ∀ w ∈ u_ws RX1 TX1 5, w ∈ wsX8_trace := by decide +kernel
  have hinX3 : ∀ w ∈ u_ws RX3 TX3 15, w ∈ wsX8_trace := by decide +kernel
  have hinX6 : ∀ w ∈ u_ws RX6 TX6 4, w ∈ wsX8_trace := by decide +kernel
  have hinX7 : ∀ w ∈ u_ws RX7 TX7 9, w ∈ wsX8_trace := by decide +kernel
  have hinX8 : ∀ w ∈ u_ws RX8 TX8 2, w ∈ wsX8_trace := by decide +kernel
  have hl := lv_entry ([.ref sf, .int a0, .int a1]) (n := 4) (Nat.le_of_ble_eq_true rfl)
  rw [lg_entry_eq]
  generalize (lg_sl ([.ref sf, .int a0, .int a1]) ++ List.replicate (4 - (lg_sl ([.ref sf, .int a0, .int a1])).length) Slot.unset).toArray = ls at hl ⊢
  have hl : lv_has ls 4 [(0, .ref sf), (1, .int a0), (2, .int a1)] := hl
  refine lv_iload_n hx hb dX8_trace_0 rfl (lv_at hl 1 rfl) ?_
  refine lv_aload_n hx hb dX8_trace_1 rfl (lv_at hl 0 rfl) ?_
  refine z_gS (k := 0) (v := ad 0) hx hb hts hinX8 hown hK hT (by decide) rfl (hts (.fieldLink RX8 10 "Steamfield" "land" "LSteamfield$Land;") (by decide +kernel)) (fun _ h9 => h9) dX8_trace_2 ?_
  refine z_giN (D := (dC, dI)) (cl := vwCl) (C := RX3) (T := TX3) (N := 15) (ci := 3) (k := 12) hx hb hts hinX3 hown hK hH zk_0 (by decide) rfl (by decide) rfl (hN (.fieldLinkNest RX8 99 "Steamfield$Land" "wellCount" "I" "Steamfield") (by decide +kernel)) (fun _ h9 => h9) dX8_trace_5 ?_
  refine lv_topi (fun x1 ex1 => ?_)
  have hx1 : x1 = nI (zc12 M) := by rw [ex1, hFx.c12]; exact z_Ok.c12 hOk0
  refine z_cSv (D := (dC, dI)) (cl := vwCl) (tys := zt ca) (nw := zw_nest) (As := [.int a0, .int x1]) (rest := []) ⟨hx, hb, hml, hown, hts⟩ (m_X8_needIndex l dC dI ca (fun z : Heap => z = s.heap)  a0 x1 (z_ni_of h_a0 hx1 (Nat.lt_of_le_of_lt (z_Ok.n12 hOk0) (by decide)))) (cwS 2 hts gX8_trace_X8_needIndex rfl rfl rfl (by decide +kernel) ⟨Nat.le_of_ble_eq_true rfl, Nat.le_of_ble_eq_true rfl⟩) rfl hK hN zw_nest_ok rfl hl.1 rfl (Nat.le_of_ble_eq_true rfl) dX8_trace_8 ⟨Nat.le_refl _, Nat.le_refl _⟩ hS (fun _ h => h.elim) (fun H locs hB1 oq1 hz1 hS => ?_)
  have hT : zT dC dI ca sf (ad 0) (ad2 0) H := by rw [hB1]; exact hT
  have hH : zW dC dI ca ad M H := by rw [hB1]; exact hH
  have hG : zW dC dI ca ad2 N H := by rw [hB1]; exact hG
  refine lv_iload_n hx hb dX8_trace_11 rfl (lv_at hl 2 rfl) ?_
  refine lv_iconst (v := 1) hx hb dX8_trace_12 (by decide) ?_
  refine lv_sipush (v := 999) hx hb dX8_trace_13 (by decide) ?_
  refine z_cSv (D := (dC, dI)) (cl := vwCl) (tys := zt ca) (nw := zw_nest) (As := [.int a1, .int 1, .int 999]) (rest := []) ⟨hx, hb, hml, hown, hts⟩ (m_X8_needRange l dC dI ca (fun z : Heap => z = H)  a1 1 999 r_a1) (cwS 3 hts gX8_trace_X8_needRange rfl rfl rfl (by decide +kernel) ⟨Nat.le_of_ble_eq_true rfl, Nat.le_of_ble_eq_true rfl⟩) rfl hK hN zw_nest_ok rfl hl.1 rfl (Nat.le_of_ble_eq_true rfl) dX8_trace_16 ⟨Nat.le_refl _, Nat.le_refl _⟩ hS (fun _ h => h.elim) (fun H locs hB1 oq1 hz1 hS => ?_)
  have hT : zT dC dI ca sf (ad 0) (ad2 0) H := by rw [hB1]; exact hT
  have hH : zW dC dI ca ad M H := by rw [hB1]; exact hH
  have hG : zW dC dI ca ad2 N H := by rw [hB1]; exact hG
  refine lv_aload_n hx hb dX8_trace_19 rfl (lv_at hl 0 rfl) ?_
  refine z_gS (k := 0) (v := ad 0) hx hb hts hinX8 hown hK hT (by decide) rfl (hts (.fieldLink RX8 10 "Steamfield" "land" "LSteamfield$Land;") (by decide +kernel)) (fun _ h9 => h9) dX8_trace_20 ?_
  refine z_grN (D := (dC, dI)) (cl := vwCl) (C := RX3) (T := TX3) (N := 15) (ci := 3) (k := 0) hx hb hts hinX3 hown hK hH zk_0 (by decide) rfl (by decide) rfl (zr_0 (k := 0) (by decide)) (hN (.fieldLinkNest RX8 31 "Steamfield$Land" "blocks" "[LSteamfield$Block;" "Steamfield") (by decide +kernel)) (fun _ h9 => h9) dX8_trace_23 ?_
  refine lv_aload_n hx hb dX8_trace_26 rfl (lv_at hl 0 rfl) ?_
  refine z_gS (k := 0) (v := ad 0) hx hb hts hinX8 hown hK hT (by decide) rfl (hts (.fieldLink RX8 10 "Steamfield" "land" "LSteamfield$Land;") (by decide +kernel)) (fun _ h9 => h9) dX8_trace_27 ?_
  refine z_grN (D := (dC, dI)) (cl := vwCl) (C := RX3) (T := TX3) (N := 15) (ci := 3) (k := 2) hx hb hts hinX3 hown hK hH zk_0 (by decide) rfl (by decide) rfl (zr_0 (k := 2) (by decide)) (hN (.fieldLinkNest RX8 102 "Steamfield$Land" "wells" "[LSteamfield$Well;" "Steamfield") (by decide +kernel)) (fun _ h9 => h9) dX8_trace_30 ?_
  refine lv_iload_n hx hb dX8_trace_33 rfl (lv_at hl 1 rfl) ?_
  refine z_aq (t0 := 3) (D := (dC, dI)) (cl := vwCl) (tys := zt ca) hx hb hK hH zk_3 (by decide) (by decide) rfl (show vp_in a0 6 from (z_ix.in (z_ix.mono h_a0 (z_Ok.n12 hOk0)))) (show zr 3 (a0 : Int32).toNatClampNeg = some (60 + a0.toNatClampNeg) from zr_3 (z_ix.lt (z_ix.mono h_a0 (z_Ok.n12 hOk0)))) dX8_trace_34 ?_
  refine z_giN (D := (dC, dI)) (cl := vwCl) (C := RX7) (T := TX7) (N := 9) (ci := 7) (k := 0) hx hb hts hinX7 hown hK hH (zk_v (z_ix.lt (z_ix.mono h_a0 (z_Ok.n12 hOk0)))) (by decide) rfl (by decide) rfl (hN (.fieldLinkNest RX8 106 "Steamfield$Well" "block" "I" "Steamfield") (by decide +kernel)) (fun _ h9 => h9) dX8_trace_35 ?_
  refine lv_topi (fun x2 ex2 => ?_)
  have hx2 : z_ix x2 8 := by rw [ex2]; exact z_Ok.wblock hOk (z_ix.lt (z_ix.mono h_a0 (z_Ok.n12 hOk0)))
  refine z_aq (t0 := 1) (D := (dC, dI)) (cl := vwCl) (tys := zt ca) hx hb hK hH zk_1 (by decide) (by decide) rfl (show vp_in x2 8 from (z_ix.in hx2)) (show zr 1 (x2 : Int32).toNatClampNeg = some (20 + x2.toNatClampNeg) from zr_1 (z_ix.lt hx2)) dX8_trace_38 ?_
  refine z_grN (D := (dC, dI)) (cl := vwCl) (C := RX0) (T := TX0) (N := 3) (ci := 0) (k := 0) hx hb hts hinX0 hown hK hH (zk_b (z_ix.lt hx2)) (by decide) rfl (by decide) rfl (zr_b (z_ix.lt hx2)) (hN (.fieldLinkNest RX8 43 "Steamfield$Block" "water" "LSteamfield$Water;" "Steamfield") (by decide +kernel)) (fun _ h9 => h9) dX8_trace_39 ?_
  refine lv_astore_n (lv' := [(3, .ref (ad (30 + x2.toNatClampNeg))), (0, .ref sf), (1, .int a0), (2, .int a1)]) hx hb dX8_trace_42 rfl hl (by decide) rfl (fun ls hl => ?_)
  refine lv_aload_n hx hb dX8_trace_43 rfl (lv_at hl 0 rfl) ?_
  refine z_giN (D := (dC, dI)) (cl := vwCl) (C := RX6) (T := TX6) (N := 4) (ci := 6) (k := 0) hx hb hts hinX6 hown hK hH (zk_w (z_ix.lt hx2)) (by decide) rfl (by decide) rfl (hN (.fieldLinkNest RX8 47 "Steamfield$Water" "mass" "I" "Steamfield") (by decide +kernel)) (fun _ h9 => h9) dX8_trace_44 ?_
  refine lv_topi (fun x3 ex3 => ?_)
  refine lv_if_gt (tgt := 60) hx hb dX8_trace_47 (by decide) (fun c4 => ?_) (fun c4 => ?_)
  · refine lv_aload_n hx hb dX8_trace_60 rfl (lv_at hl 0 rfl) ?_
    refine lv_dup hx hb dX8_trace_61 rfl ?_
    refine z_giN (D := (dC, dI)) (cl := vwCl) (C := RX6) (T := TX6) (N := 4) (ci := 6) (k := 3) hx hb hts hinX6 hown hK hH (zk_w (z_ix.lt hx2)) (by decide) rfl (by decide) rfl (hN (.fieldLinkNest RX8 139 "Steamfield$Water" "tracer" "I" "Steamfield") (by decide +kernel)) (fun _ h9 => h9) dX8_trace_62 ?_
    refine lv_topi (fun x5 ex5 => ?_)
    refine lv_iload_n hx hb dX8_trace_65 rfl (lv_at hl 3 rfl) ?_
    refine lv_iadd hx hb dX8_trace_66 ?_
    refine lv_topi (fun x6 ex6 => ?_)
    refine zp_iN (D := (dC, dI)) (cl := vwCl) (C := RX6) (T := TX6) (N := 4) (ci := 6) (k := 3) (ty := .int) hx hb hts hinX6 tyX6 tyX6_ok nmX6 hown hK hH hI hS (fun _ h => Or.inl h) (zk_w (z_ix.lt hx2)) (by decide) rfl (by decide) rfl (hN (.fieldLinkNest RX8 139 "Steamfield$Water" "tracer" "I" "Steamfield") (by decide +kernel)) (fun _ h9 => h9) rfl (by decide +kernel) rfl rfl dX8_trace_67 (fun H locs hH oq hS => ?_)
    have hT := zT_u hT oq (hq.2.1 _ (zk_lt (zk_w (z_ix.lt hx2)) (by decide)))
    have hG := zW_u hG oq hq.x (zk_lt (zk_w (z_ix.lt hx2)) (by decide))
    obtain ⟨M7, hM7⟩ : ∃ z : zM, z = zu M (30 + x2.toNatClampNeg) 3 x6 := ⟨_, rfl⟩
    rw [← hM7] at hH
    have hFx : z_Fx M M7 := hFx.tr (by rw [hM7]; exact (z_Fx.u (zk_w (z_ix.lt hx2)) rfl))
    have hOk : z_Ok M7 := hOk0.fx hFx
    refine lv_aload_n hx hb dX8_trace_70 rfl (lv_at hl 1 rfl) ?_
    refine z_gS (k := 0) (v := ad 0) hx hb hts hinX8 hown hK hT (by decide) rfl (hts (.fieldLink RX8 10 "Steamfield" "land" "LSteamfield$Land;") (by decide +kernel)) (fun _ h9 => h9) dX8_trace_71 ?_
    refine z_grN (D := (dC, dI)) (cl := vwCl) (C := RX3) (T := TX3) (N := 15) (ci := 3) (k := 6) hx hb hts hinX3 hown hK hH zk_0 (by decide) rfl (by decide) rfl (zr_0 (k := 6) (by decide)) (hN (.fieldLinkNest RX8 58 "Steamfield$Land" "books" "LSteamfield$Books;" "Steamfield") (by decide +kernel)) (fun _ h9 => h9) dX8_trace_74 ?_
    refine z_grN (D := (dC, dI)) (cl := vwCl) (C := RX1) (T := TX1) (N := 5) (ci := 1) (k := 0) hx hb hts hinX1 hown hK hH zk_7 (by decide) rfl (by decide) rfl (zr_7 (k := 0) (by decide)) (hN (.fieldLinkNest RX8 62 "Steamfield$Books" "told" "LSteamfield$Water;" "Steamfield") (by decide +kernel)) (fun _ h9 => h9) dX8_trace_77 ?_
    refine lv_dup hx hb dX8_trace_80 rfl ?_
    refine z_giN (D := (dC, dI)) (cl := vwCl) (C := RX6) (T := TX6) (N := 4) (ci := 6) (k := 3) hx hb hts hinX6 hown hK hH zk_11 (by decide) rfl (by decide) rfl (hN (.fieldLinkNest RX8 139 "Steamfield$Water" "tracer" "I" "Steamfield") (by decide +kernel)) (fun _ h9 => h9) dX8_trace_81 ?_
    refine lv_topi (fun x8 ex8 => ?_)
    refine lv_iload_n hx hb dX8_trace_84 rfl (lv_at hl 3 rfl) ?_
    refine lv_iadd hx hb dX8_trace_85 ?_
    refine lv_topi (fun x9 ex9 => ?_)
    refine zp_iN (D := (dC, dI)) (cl := vwCl) (C := RX6) (T := TX6) (N := 4) (ci := 6) (k := 3) (ty := .int) hx hb hts hinX6 tyX6 tyX6_ok nmX6 hown hK hH hI hS (fun _ h => Or.inl h) zk_11 (by decide) rfl (by decide) rfl (hN (.fieldLinkNest RX8 139 "Steamfield$Water" "tracer" "I" "Steamfield") (by decide +kernel)) (fun _ h9 => h9) rfl (by decide +kernel) rfl rfl dX8_trace_86 (fun H locs hH oq hS => ?_)
    have hT := zT_u hT oq (hq.2.1 _ (zk_lt zk_11 (by decide)))
    have hG := zW_u hG oq hq.x (zk_lt zk_11 (by decide))
    obtain ⟨M10, hM10⟩ : ∃ z : zM, z = zu M7 11 3 x9 := ⟨_, rfl⟩
    rw [← hM10] at hH
    have hFx : z_Fx M M10 := hFx.tr (by rw [hM10]; exact (z_Fx.u zk_11 rfl))
    have hOk : z_Ok M10 := hOk0.fx hFx
    refine lv_aload_n hx hb dX8_trace_89 rfl (lv_at hl 0 rfl) ?_
    refine z_giN (D := (dC, dI)) (cl := vwCl) (C := RX6) (T := TX6) (N := 4) (ci := 6) (k := 3) hx hb hts hinX6 hown hK hH (zk_w (z_ix.lt hx2)) (by decide) rfl (by decide) rfl (hN (.fieldLinkNest RX8 139 "Steamfield$Water" "tracer" "I" "Steamfield") (by decide +kernel)) (fun _ h9 => h9) dX8_trace_90 ?_
    refine lv_topi (fun x11 ex11 => ?_)
    have hF0 : zW dC dI ca ad (fX8_trace M N a0 a1) H := by
      have e9 : M10 = (fX8_trace M N a0 a1) := by subst ex11; subst hM10; subst ex9; subst ex8; subst hM7; subst ex6; subst ex5; subst ex3; subst ex2; subst ex1; rfl
      rw [← e9]; exact hH
    have hFF : z_Fx M (fX8_trace M N a0 a1) := by
      have e9 : M10 = (fX8_trace M N a0 a1) := by subst ex11; subst hM10; subst ex9; subst ex8; subst hM7; subst ex6; subst ex5; subst ex3; subst ex2; subst ex1; rfl
      rw [← e9]; exact hFx
    have hR : x11 = rX8_trace M N a0 a1 := by subst ex11; subst hM10; subst ex9; subst ex8; subst hM7; subst ex6; subst ex5; subst ex3; subst ex2; subst ex1; rfl
    exact W.iret (v := x11) hx hb hr (fun t ht hW => ⟨⟨x11, (), rfl, hR, z_to (B := fun H => zT dC dI ca sf (ad 0) (ad2 0) H ∧ zW dC dI ca ad (fX8_trace M N a0 a1) H ∧ zW dC dI ca ad2 N H ∧ z_Fx M (fX8_trace M N a0 a1)) ht ⟨hT, hF0, hG, hFF⟩⟩, hS.F ht⟩) hS.2.2 dX8_trace_93
  · exact absurd (z_lt_of (by subst ex3; subst ex2; subst ex1; exact h_m)) c4

def fX8_clean (M : zM) (N : zM) (a0 : Int32) : zM :=
  let x1 : Int32 := M 0 12
  let x2 : Int32 := M (60 + a0.toNatClampNeg) 0
  let x3 : Int32 := M (20 + x2.toNatClampNeg) 2
  let x4 : Int32 := M (60 + a0.toNatClampNeg) 3
  let x5 : Int32 := 5 * x4
  let x6 : Int32 := M 8 x3.toNatClampNeg
  let x8 : Int32 := M (60 + a0.toNatClampNeg) 3
  let x9 : Int32 := M 8 x3.toNatClampNeg
  let x10 : Int32 := x9 - x5
  let M11 : zM := zu M 8 x3.toNatClampNeg x10
  let M12 : zM := zu M11 (60 + a0.toNatClampNeg) 3 0
  let M13 : zM := zu M12 (60 + a0.toNatClampNeg) 4 0
  M13
def rX8_clean (M : zM) (N : zM) (a0 : Int32) : Int32 :=
  let x1 : Int32 := M 0 12
  let x2 : Int32 := M (60 + a0.toNatClampNeg) 0
  let x3 : Int32 := M (20 + x2.toNatClampNeg) 2
  let x4 : Int32 := M (60 + a0.toNatClampNeg) 3
  let x5 : Int32 := 5 * x4
  let x6 : Int32 := M 8 x3.toNatClampNeg
  let x8 : Int32 := M (60 + a0.toNatClampNeg) 3
  let x9 : Int32 := M 8 x3.toNatClampNeg
  let x10 : Int32 := x9 - x5
  let M11 : zM := zu M 8 x3.toNatClampNeg x10
  let M12 : zM := zu M11 (60 + a0.toNatClampNeg) 3 0
  let M13 : zM := zu M12 (60 + a0.toNatClampNeg) 4 0
  x8
set_option maxHeartbeats 4000000 in
set_option maxRecDepth 100000 in
theorem m_X8_clean (l : Launch) (dC : Nat → ClassId) (dI : Nat → Nat → Nat) (ca : Nat → ClassId) (sf : Nat) (ad : Nat → Nat) (hI : z_I zd ad) (ad2 : Nat → Nat) (hI2 : z_I zd ad2) (hq : zSep sf ad ad2) (M : zM) (N : zM) (a0 : Int32) (hOk0 : z_Ok M) (h_a0 : z_ix a0 (zc12 M)) (h_c : ¬ M 8 (M (20 + (M (60 + a0.toNatClampNeg) 0).toNatClampNeg) 2).toNatClampNeg < 5 * M (60 + a0.toNatClampNeg) 3) : Met l yX8_clean wsX8_clean ({ frames := 1, cells := 0, slots := 0, locals := 21 }) (z_Pc (dC, dI) vwCl (zt ca) zw_nest [.ref sf, .int a0] (fun H => zT dC dI ca sf (ad 0) (ad2 0) H ∧ zW dC dI ca ad M H ∧ zW dC dI ca ad2 N H)) (z_Qi (rX8_clean M N a0) (fun H => zT dC dI ca sf (ad 0) (ad2 0) H ∧ zW dC dI ca ad (fX8_clean M N a0) H ∧ zW dC dI ca ad2 N H ∧ z_Fx M (fX8_clean M N a0)) (zA2 ad ad2)) 0 0 (zA2 ad ad2) := by
  refine Met.ofW (cc := cX8_clean) (maxL := 6) (ret := (some .int)) (by decide) rfl ?_
  intro p e s m args below meth c s₁ B9 hml hv
  obtain ⟨rfl, ⟨hT, hH, hG⟩, hK, hN⟩ := hv
  have hx := B9.exec
  have hb := B9.bytes
  have hr := B9.returns
  have hts := atoms_spec (ws := wsX8_clean) B9.pre
  have hown : s.vm.findClass RX8 = some m.cls := findClass_of_methodNamed B9.named
  have hlocks := B9.notSynchronized
  have hS : va_S (zA2 ad ad2) s.heap s.heap [] := va_S.rf
  have hOk := hOk0
  have hFx : z_Fx M M := z_Fx.rf
  have hT : zT dC dI ca sf (ad 0) (ad2 0) s.heap := hT
  have hH : zW dC dI ca ad M s.heap := hH
  have hG : zW dC dI ca ad2 N s.heap := hG
  have hinX0 : ∀ w ∈ u_ws RX0 TX0 3, w ∈ wsX8_clean := by decide +kernel
  have hinX3 : ∀ w ∈ u_ws RX3 TX3 15, w ∈ wsX8_clean := by decide +kernel
  have hinX7 : ∀ w ∈ u_ws RX7 TX7 9, w ∈ wsX8_clean := by decide +kernel
  have hinX8 : ∀ w ∈ u_ws RX8 TX8 2, w ∈ wsX8_clean := by decide +kernel
  have hl := lv_entry ([.ref sf, .int a0]) (n := 6) (Nat.le_of_ble_eq_true rfl)
  rw [lg_entry_eq]
  generalize (lg_sl ([.ref sf, .int a0]) ++ List.replicate (6 - (lg_sl ([.ref sf, .int a0])).length) Slot.unset).toArray = ls at hl ⊢
  have hl : lv_has ls 6 [(0, .ref sf), (1, .int a0)] := hl
  refine lv_iload_n hx hb dX8_clean_0 rfl (lv_at hl 1 rfl) ?_
  refine lv_aload_n hx hb dX8_clean_1 rfl (lv_at hl 0 rfl) ?_
  refine z_gS (k := 0) (v := ad 0) hx hb hts hinX8 hown hK hT (by decide) rfl (hts (.fieldLink RX8 10 "Steamfield" "land" "LSteamfield$Land;") (by decide +kernel)) (fun _ h9 => h9) dX8_clean_2 ?_
  refine z_giN (D := (dC, dI)) (cl := vwCl) (C := RX3) (T := TX3) (N := 15) (ci := 3) (k := 12) hx hb hts hinX3 hown hK hH zk_0 (by decide) rfl (by decide) rfl (hN (.fieldLinkNest RX8 99 "Steamfield$Land" "wellCount" "I" "Steamfield") (by decide +kernel)) (fun _ h9 => h9) dX8_clean_5 ?_
  refine lv_topi (fun x1 ex1 => ?_)
  have hx1 : x1 = nI (zc12 M) := by rw [ex1, hFx.c12]; exact z_Ok.c12 hOk0
  refine z_cSv (D := (dC, dI)) (cl := vwCl) (tys := zt ca) (nw := zw_nest) (As := [.int a0, .int x1]) (rest := []) ⟨hx, hb, hml, hown, hts⟩ (m_X8_needIndex l dC dI ca (fun z : Heap => z = s.heap)  a0 x1 (z_ni_of h_a0 hx1 (Nat.lt_of_le_of_lt (z_Ok.n12 hOk0) (by decide)))) (cwS 2 hts gX8_clean_X8_needIndex rfl rfl rfl (by decide +kernel) ⟨Nat.le_of_ble_eq_true rfl, Nat.le_of_ble_eq_true rfl⟩) rfl hK hN zw_nest_ok rfl hl.1 rfl (Nat.le_of_ble_eq_true rfl) dX8_clean_8 ⟨Nat.le_refl _, Nat.le_refl _⟩ hS (fun _ h => h.elim) (fun H locs hB1 oq1 hz1 hS => ?_)
  have hT : zT dC dI ca sf (ad 0) (ad2 0) H := by rw [hB1]; exact hT
  have hH : zW dC dI ca ad M H := by rw [hB1]; exact hH
  have hG : zW dC dI ca ad2 N H := by rw [hB1]; exact hG
  refine lv_aload_n hx hb dX8_clean_11 rfl (lv_at hl 0 rfl) ?_
  refine z_gS (k := 0) (v := ad 0) hx hb hts hinX8 hown hK hT (by decide) rfl (hts (.fieldLink RX8 10 "Steamfield" "land" "LSteamfield$Land;") (by decide +kernel)) (fun _ h9 => h9) dX8_clean_12 ?_
  refine z_grN (D := (dC, dI)) (cl := vwCl) (C := RX3) (T := TX3) (N := 15) (ci := 3) (k := 2) hx hb hts hinX3 hown hK hH zk_0 (by decide) rfl (by decide) rfl (zr_0 (k := 2) (by decide)) (hN (.fieldLinkNest RX8 102 "Steamfield$Land" "wells" "[LSteamfield$Well;" "Steamfield") (by decide +kernel)) (fun _ h9 => h9) dX8_clean_15 ?_
  refine lv_iload_n hx hb dX8_clean_18 rfl (lv_at hl 1 rfl) ?_
  refine z_aq (t0 := 3) (D := (dC, dI)) (cl := vwCl) (tys := zt ca) hx hb hK hH zk_3 (by decide) (by decide) rfl (show vp_in a0 6 from (z_ix.in (z_ix.mono h_a0 (z_Ok.n12 hOk0)))) (show zr 3 (a0 : Int32).toNatClampNeg = some (60 + a0.toNatClampNeg) from zr_3 (z_ix.lt (z_ix.mono h_a0 (z_Ok.n12 hOk0)))) dX8_clean_19 ?_
  refine lv_astore_n (lv' := [(2, .ref (ad (60 + a0.toNatClampNeg))), (0, .ref sf), (1, .int a0)]) hx hb dX8_clean_20 rfl hl (by decide) rfl (fun ls hl => ?_)
  refine lv_aload_n hx hb dX8_clean_21 rfl (lv_at hl 1 rfl) ?_
  refine z_gS (k := 0) (v := ad 0) hx hb hts hinX8 hown hK hT (by decide) rfl (hts (.fieldLink RX8 10 "Steamfield" "land" "LSteamfield$Land;") (by decide +kernel)) (fun _ h9 => h9) dX8_clean_22 ?_
  refine z_grN (D := (dC, dI)) (cl := vwCl) (C := RX3) (T := TX3) (N := 15) (ci := 3) (k := 0) hx hb hts hinX3 hown hK hH zk_0 (by decide) rfl (by decide) rfl (zr_0 (k := 0) (by decide)) (hN (.fieldLinkNest RX8 31 "Steamfield$Land" "blocks" "[LSteamfield$Block;" "Steamfield") (by decide +kernel)) (fun _ h9 => h9) dX8_clean_25 ?_
  refine lv_aload_n hx hb dX8_clean_28 rfl (lv_at hl 0 rfl) ?_
  refine z_giN (D := (dC, dI)) (cl := vwCl) (C := RX7) (T := TX7) (N := 9) (ci := 7) (k := 0) hx hb hts hinX7 hown hK hH (zk_v (z_ix.lt (z_ix.mono h_a0 (z_Ok.n12 hOk0)))) (by decide) rfl (by decide) rfl (hN (.fieldLinkNest RX8 106 "Steamfield$Well" "block" "I" "Steamfield") (by decide +kernel)) (fun _ h9 => h9) dX8_clean_29 ?_
  refine lv_topi (fun x2 ex2 => ?_)
  have hx2 : z_ix x2 8 := by rw [ex2]; exact z_Ok.wblock hOk (z_ix.lt (z_ix.mono h_a0 (z_Ok.n12 hOk0)))
  refine z_aq (t0 := 1) (D := (dC, dI)) (cl := vwCl) (tys := zt ca) hx hb hK hH zk_1 (by decide) (by decide) rfl (show vp_in x2 8 from (z_ix.in hx2)) (show zr 1 (x2 : Int32).toNatClampNeg = some (20 + x2.toNatClampNeg) from zr_1 (z_ix.lt hx2)) dX8_clean_32 ?_
  refine z_giN (D := (dC, dI)) (cl := vwCl) (C := RX0) (T := TX0) (N := 3) (ci := 0) (k := 2) hx hb hts hinX0 hown hK hH (zk_b (z_ix.lt hx2)) (by decide) rfl (by decide) rfl (hN (.fieldLinkNest RX8 40 "Steamfield$Block" "owner" "I" "Steamfield") (by decide +kernel)) (fun _ h9 => h9) dX8_clean_33 ?_
  refine lv_topi (fun x3 ex3 => ?_)
  have hx3 : z_ix x3 2 := by rw [ex3]; exact z_Ok.owner hOk (z_ix.lt hx2)
  refine lv_istore_n (lv' := [(3, .int x3), (2, .ref (ad (60 + a0.toNatClampNeg))), (0, .ref sf), (1, .int a0)]) hx hb dX8_clean_36 rfl hl (by decide) rfl (fun ls hl => ?_)
  refine lv_iconst (v := 5) hx hb dX8_clean_37 (by decide) ?_
  refine lv_aload_n hx hb dX8_clean_38 rfl (lv_at hl 1 rfl) ?_
  refine z_giN (D := (dC, dI)) (cl := vwCl) (C := RX7) (T := TX7) (N := 9) (ci := 7) (k := 3) hx hb hts hinX7 hown hK hH (zk_v (z_ix.lt (z_ix.mono h_a0 (z_Ok.n12 hOk0)))) (by decide) rfl (by decide) rfl (hN (.fieldLinkNest RX8 142 "Steamfield$Well" "scale" "I" "Steamfield") (by decide +kernel)) (fun _ h9 => h9) dX8_clean_39 ?_
  refine lv_topi (fun x4 ex4 => ?_)
  refine lv_imul hx hb dX8_clean_42 ?_
  refine lv_topi (fun x5 ex5 => ?_)
  refine lv_istore (lv' := [(4, .int x5), (3, .int x3), (2, .ref (ad (60 + a0.toNatClampNeg))), (0, .ref sf), (1, .int a0)]) hx hb dX8_clean_43 hl (by decide) rfl (fun ls hl => ?_)
  refine lv_aload_n hx hb dX8_clean_45 rfl (lv_at hl 3 rfl) ?_
  refine z_gS (k := 0) (v := ad 0) hx hb hts hinX8 hown hK hT (by decide) rfl (hts (.fieldLink RX8 10 "Steamfield" "land" "LSteamfield$Land;") (by decide +kernel)) (fun _ h9 => h9) dX8_clean_46 ?_
  refine z_grN (D := (dC, dI)) (cl := vwCl) (C := RX3) (T := TX3) (N := 15) (ci := 3) (k := 7) hx hb hts hinX3 hown hK hH zk_0 (by decide) rfl (by decide) rfl (zr_0 (k := 7) (by decide)) (hN (.fieldLinkNest RX8 145 "Steamfield$Land" "coins" "[I" "Steamfield") (by decide +kernel)) (fun _ h9 => h9) dX8_clean_49 ?_
  refine lv_iload_n hx hb dX8_clean_52 rfl (lv_at hl 1 rfl) ?_
  refine z_al (t0 := 0) (D := (dC, dI)) (cl := vwCl) (tys := zt ca) hx hb hK hH zk_8 rfl (show vp_in x3 2 from (z_ix.in hx3)) dX8_clean_53 ?_
  refine lv_topi (fun x6 ex6 => ?_)
  refine lv_iload hx hb dX8_clean_54 (lv_at hl 0 rfl) ?_
  refine lv_icmp_ge (tgt := 69) hx hb dX8_clean_56 (by decide) (fun c7 => ?_) (fun c7 => ?_)
  · refine lv_aload_n hx hb dX8_clean_69 rfl (lv_at hl 2 rfl) ?_
    refine z_giN (D := (dC, dI)) (cl := vwCl) (C := RX7) (T := TX7) (N := 9) (ci := 7) (k := 3) hx hb hts hinX7 hown hK hH (zk_v (z_ix.lt (z_ix.mono h_a0 (z_Ok.n12 hOk0)))) (by decide) rfl (by decide) rfl (hN (.fieldLinkNest RX8 142 "Steamfield$Well" "scale" "I" "Steamfield") (by decide +kernel)) (fun _ h9 => h9) dX8_clean_70 ?_
    refine lv_topi (fun x8 ex8 => ?_)
    refine lv_istore (lv' := [(5, .int x8), (4, .int x5), (3, .int x3), (2, .ref (ad (60 + a0.toNatClampNeg))), (0, .ref sf), (1, .int a0)]) hx hb dX8_clean_73 hl (by decide) rfl (fun ls hl => ?_)
    refine lv_aload_n hx hb dX8_clean_75 rfl (lv_at hl 4 rfl) ?_
    refine z_gS (k := 0) (v := ad 0) hx hb hts hinX8 hown hK hT (by decide) rfl (hts (.fieldLink RX8 10 "Steamfield" "land" "LSteamfield$Land;") (by decide +kernel)) (fun _ h9 => h9) dX8_clean_76 ?_
    refine z_grN (D := (dC, dI)) (cl := vwCl) (C := RX3) (T := TX3) (N := 15) (ci := 3) (k := 7) hx hb hts hinX3 hown hK hH zk_0 (by decide) rfl (by decide) rfl (zr_0 (k := 7) (by decide)) (hN (.fieldLinkNest RX8 145 "Steamfield$Land" "coins" "[I" "Steamfield") (by decide +kernel)) (fun _ h9 => h9) dX8_clean_79 ?_
    refine lv_iload_n hx hb dX8_clean_82 rfl (lv_at hl 2 rfl) ?_
    refine lv_dup2_11 hx hb dX8_clean_83 rfl rfl ?_
    refine z_al (t0 := 0) (D := (dC, dI)) (cl := vwCl) (tys := zt ca) hx hb hK hH zk_8 rfl (show vp_in x3 2 from (z_ix.in hx3)) dX8_clean_84 ?_
    refine lv_topi (fun x9 ex9 => ?_)
    refine lv_iload hx hb dX8_clean_85 (lv_at hl 1 rfl) ?_
    refine lv_isub hx hb dX8_clean_87 ?_
    refine lv_topi (fun x10 ex10 => ?_)
    refine zp_as (t0 := 0) (D := (dC, dI)) (cl := vwCl) (tys := zt ca) hx hb hK hH hI hS (fun _ h => Or.inl h) zk_8 rfl (show vp_in x3 2 from (z_ix.in hx3)) dX8_clean_88 (fun H locs hH oq hS => ?_)
    have hT := zT_u hT oq (hq.2.1 _ (zk_lt zk_8 (by decide)))
    have hG := zW_u hG oq hq.x (zk_lt zk_8 (by decide))
    obtain ⟨M11, hM11⟩ : ∃ z : zM, z = zu M 8 x3.toNatClampNeg x10 := ⟨_, rfl⟩
    rw [← hM11] at hH
    have hFx : z_Fx M M11 := hFx.tr (by rw [hM11]; exact (z_Fx.u zk_8 rfl))
    have hOk : z_Ok M11 := hOk0.fx hFx
    refine lv_aload_n hx hb dX8_clean_89 rfl (lv_at hl 3 rfl) ?_
    refine lv_iconst (v := 0) hx hb dX8_clean_90 (by decide) ?_
    refine zp_iN (D := (dC, dI)) (cl := vwCl) (C := RX7) (T := TX7) (N := 9) (ci := 7) (k := 3) (ty := .int) hx hb hts hinX7 tyX7 tyX7_ok nmX7 hown hK hH hI hS (fun _ h => Or.inl h) (zk_v (z_ix.lt (z_ix.mono h_a0 (z_Ok.n12 hOk0)))) (by decide) rfl (by decide) rfl (hN (.fieldLinkNest RX8 142 "Steamfield$Well" "scale" "I" "Steamfield") (by decide +kernel)) (fun _ h9 => h9) rfl (by decide +kernel) rfl rfl dX8_clean_91 (fun H locs hH oq hS => ?_)
    have hT := zT_u hT oq (hq.2.1 _ (zk_lt (zk_v (z_ix.lt (z_ix.mono h_a0 (z_Ok.n12 hOk0)))) (by decide)))
    have hG := zW_u hG oq hq.x (zk_lt (zk_v (z_ix.lt (z_ix.mono h_a0 (z_Ok.n12 hOk0)))) (by decide))
    obtain ⟨M12, hM12⟩ : ∃ z : zM, z = zu M11 (60 + a0.toNatClampNeg) 3 0 := ⟨_, rfl⟩
    rw [← hM12] at hH
    have hFx : z_Fx M M12 := hFx.tr (by rw [hM12]; exact (z_Fx.u (zk_v (z_ix.lt (z_ix.mono h_a0 (z_Ok.n12 hOk0)))) rfl))
    have hOk : z_Ok M12 := hOk0.fx hFx
    refine lv_aload_n hx hb dX8_clean_94 rfl (lv_at hl 3 rfl) ?_
    refine lv_iconst (v := 0) hx hb dX8_clean_95 (by decide) ?_
    refine zp_iN (D := (dC, dI)) (cl := vwCl) (C := RX7) (T := TX7) (N := 9) (ci := 7) (k := 4) (ty := .int) hx hb hts hinX7 tyX7 tyX7_ok nmX7 hown hK hH hI hS (fun _ h => Or.inl h) (zk_v (z_ix.lt (z_ix.mono h_a0 (z_Ok.n12 hOk0)))) (by decide) rfl (by decide) rfl (hN (.fieldLinkNest RX8 151 "Steamfield$Well" "crust" "I" "Steamfield") (by decide +kernel)) (fun _ h9 => h9) rfl (by decide +kernel) rfl rfl dX8_clean_96 (fun H locs hH oq hS => ?_)
    have hT := zT_u hT oq (hq.2.1 _ (zk_lt (zk_v (z_ix.lt (z_ix.mono h_a0 (z_Ok.n12 hOk0)))) (by decide)))
    have hG := zW_u hG oq hq.x (zk_lt (zk_v (z_ix.lt (z_ix.mono h_a0 (z_Ok.n12 hOk0)))) (by decide))
    obtain ⟨M13, hM13⟩ : ∃ z : zM, z = zu M12 (60 + a0.toNatClampNeg) 4 0 := ⟨_, rfl⟩
    rw [← hM13] at hH
    have hFx : z_Fx M M13 := hFx.tr (by rw [hM13]; exact (z_Fx.u (zk_v (z_ix.lt (z_ix.mono h_a0 (z_Ok.n12 hOk0)))) rfl))
    have hOk : z_Ok M13 := hOk0.fx hFx
    refine lv_iload hx hb dX8_clean_99 (lv_at hl 0 rfl) ?_
    have hF0 : zW dC dI ca ad (fX8_clean M N a0) H := by
      have e9 : M13 = (fX8_clean M N a0) := by subst hM13; subst hM12; subst hM11; subst ex10; subst ex9; subst ex8; subst ex6; subst ex5; subst ex4; subst ex3; subst ex2; subst ex1; rfl
      rw [← e9]; exact hH
    have hFF : z_Fx M (fX8_clean M N a0) := by
      have e9 : M13 = (fX8_clean M N a0) := by subst hM13; subst hM12; subst hM11; subst ex10; subst ex9; subst ex8; subst ex6; subst ex5; subst ex4; subst ex3; subst ex2; subst ex1; rfl
      rw [← e9]; exact hFx
    have hR : x8 = rX8_clean M N a0 := by subst hM13; subst hM12; subst hM11; subst ex10; subst ex9; subst ex8; subst ex6; subst ex5; subst ex4; subst ex3; subst ex2; subst ex1; rfl
    exact W.iret (v := x8) hx hb hr (fun t ht hW => ⟨⟨x8, (), rfl, hR, z_to (B := fun H => zT dC dI ca sf (ad 0) (ad2 0) H ∧ zW dC dI ca ad (fX8_clean M N a0) H ∧ zW dC dI ca ad2 N H ∧ z_Fx M (fX8_clean M N a0)) ht ⟨hT, hF0, hG, hFF⟩⟩, hS.F ht⟩) hS.2.2 dX8_clean_101
  · exact absurd (z_le_of (by subst ex6; subst ex5; subst ex4; subst ex3; subst ex2; subst ex1; exact h_c)) c7

