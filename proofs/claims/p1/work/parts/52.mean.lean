abbrev lt9 (ca : Nat → ClassId) : List (ClassId × FieldType) := [(ca 100, .int), (ca 101, .object "Steamfield$Block"), (ca 102, .object "Steamfield$Face"), (ca 103, .object "Steamfield$Well"), (ca 104, .object "Steamfield$Spring"), (ca 105, .array .int), (ca 106, .long)]
abbrev yO (dC : Nat → ClassId) (dI : Nat → Nat → Nat) (ca : Nat → ClassId) (ob : Nat) (f : Nat → Int64) (H : Heap) : Prop := va_at (dC, dI) vwCl (ob, .inl (ca 106, 1, .inr (.inl f))) H
abbrev zAo (ad ad2 : Nat → Nat) (ob : Nat) : Nat → Prop := fun q => zA2 ad ad2 q ∨ q = ob
set_option maxHeartbeats 4000000 in
set_option maxRecDepth 100000 in
theorem m_X8_meanWarmth (l : Launch) (dC : Nat → ClassId) (dI : Nat → Nat → Nat) (ca : Nat → ClassId) (sf : Nat) (ad : Nat → Nat) (hI : z_I zd ad) (ad2 : Nat → Nat) (hI2 : z_I zd ad2) (hq : zSep sf ad ad2) (M : zM) (N : zM)  (h0 : M 0 10 = 0) : Met l yX8_meanWarmth wsX8_meanWarmth ({ frames := 0, cells := 0, slots := 0, locals := 0 }) (z_Pc (dC, dI) vwCl (zt ca) zw_nest [.ref sf] (fun H => zT dC dI ca sf (ad 0) (ad2 0) H ∧ zW dC dI ca ad M H ∧ zW dC dI ca ad2 N H)) (z_Qd (fun r => r = FP.dconst0) (fun H => zT dC dI ca sf (ad 0) (ad2 0) H ∧ zW dC dI ca ad M H ∧ zW dC dI ca ad2 N H) (zA2 ad ad2)) 0 0 (zA2 ad ad2) := by
  refine Met.ofW (cc := cX8_meanWarmth) (maxL := 7) (ret := (some .double)) (by decide) rfl ?_
  intro p e s m args below meth c s₁ B9 hml hv
  obtain ⟨rfl, ⟨hT, hH, hG⟩, hK, hN⟩ := hv
  have hx := B9.exec
  have hb := B9.bytes
  have hr := B9.returns
  have hts := atoms_spec (ws := wsX8_meanWarmth) B9.pre
  have hown : s.vm.findClass RX8 = some m.cls := findClass_of_methodNamed B9.named
  have hlocks := B9.notSynchronized
  have hS : va_S (zA2 ad ad2) s.heap s.heap [] := va_S.rf
  have hT : zT dC dI ca sf (ad 0) (ad2 0) s.heap := hT
  have hH : zW dC dI ca ad M s.heap := hH
  have hG : zW dC dI ca ad2 N s.heap := hG
  have hinX3 : ∀ w ∈ u_ws RX3 TX3 15, w ∈ wsX8_meanWarmth := by decide +kernel
  have hinX8 : ∀ w ∈ u_ws RX8 TX8 2, w ∈ wsX8_meanWarmth := by decide +kernel
  have hl := lv_entry ([.ref sf]) (n := 7) (Nat.le_of_ble_eq_true rfl)
  rw [lg_entry_eq]
  generalize (lg_sl ([.ref sf]) ++ List.replicate (7 - (lg_sl ([.ref sf])).length) Slot.unset).toArray = ls at hl ⊢
  have hl : lv_has ls 7 [(0, .ref sf)] := hl
  refine lv_lconst (v := 0) hx hb dX8_meanWarmth_0 (by decide) ?_
  refine lv_lstore_n (lv' := [(1, .long 0), (0, .ref sf)]) hx hb dX8_meanWarmth_1 rfl hl (by decide) rfl (fun ls hl => ?_)
  refine lv_lconst (v := 0) hx hb dX8_meanWarmth_2 (by decide) ?_
  refine lv_lstore_n (lv' := [(3, .long 0), (1, .long 0), (0, .ref sf)]) hx hb dX8_meanWarmth_3 rfl hl (by decide) rfl (fun ls hl => ?_)
  refine lv_iconst (v := 0) hx hb dX8_meanWarmth_4 (by decide) ?_
  refine lv_istore (lv' := [(5, .int 0), (3, .long 0), (1, .long 0), (0, .ref sf)]) hx hb dX8_meanWarmth_5 hl (by decide) rfl (fun ls hl => ?_)
  refine lv_iload hx hb dX8_meanWarmth_7 (lv_at hl 0 rfl) ?_
  refine lv_aload_n hx hb dX8_meanWarmth_9 rfl (lv_at hl 3 rfl) ?_
  refine z_gS (k := 0) (v := ad 0) hx hb hts hinX8 hown hK hT (by decide) rfl (hts (.fieldLink RX8 10 "Steamfield" "land" "LSteamfield$Land;") (by decide +kernel)) (fun _ h9 => h9) dX8_meanWarmth_10 ?_
  refine z_giN (D := (dC, dI)) (cl := vwCl) (C := RX3) (T := TX3) (N := 15) (ci := 3) (k := 10) hx hb hts hinX3 hown hK hH zk_0 (by decide) rfl (by decide) rfl (hN (.fieldLinkNest RX8 23 "Steamfield$Land" "blockCount" "I" "Steamfield") (by decide +kernel)) (fun _ h9 => h9) dX8_meanWarmth_13 ?_
  refine lv_topi (fun x1 ex1 => ?_)
  refine lv_icmp_ge (tgt := 62) hx hb dX8_meanWarmth_16 (by decide) (fun c2 => ?_) (fun c2 => absurd c2 (not_not_intro (by rw [ex1, h0]; decide)))
  refine lv_lload_n hx hb dX8_meanWarmth_62 rfl (lv_at hl 1 rfl) ?_
  refine lv_lconst (v := 0) hx hb dX8_meanWarmth_63 (by decide) ?_
  refine W.lcmp hx hb dX8_meanWarmth_64 ?_
  refine lv_topi (fun x3 ex3 => ?_)
  refine lv_if_le (tgt := 76) hx hb dX8_meanWarmth_65 (by decide) (fun c4 => ?_) (fun c4 => absurd c4 (not_not_intro (by rw [ex3]; decide)))
  refine lv_dconst0 hx hb dX8_meanWarmth_76 ?_
  exact W.dret (v := FP.dconst0) hx hb hr (fun t ht hW => ⟨⟨FP.dconst0, (), rfl, rfl, z_to (B := fun H => zT dC dI ca sf (ad 0) (ad2 0) H ∧ zW dC dI ca ad M H ∧ zW dC dI ca ad2 N H) ht ⟨hT, hH, hG⟩⟩, hS.F ht⟩) hS.2.2 dX8_meanWarmth_77
set_option maxHeartbeats 4000000 in
set_option maxRecDepth 100000 in
theorem m_X10_meanWarmth (l : Launch) (dC : Nat → ClassId) (dI : Nat → Nat → Nat) (ca : Nat → ClassId) (mo sz : Nat) (ad : Nat → Nat) (hI : z_I yd ad) (hm : ∀ i, yd.1 i < 200 → ad i ≠ mo) (th : Int32) (sm : Int64) : Met l yX10_meanWarmth wsX10_meanWarmth ({ frames := 0, cells := 0, slots := 0, locals := 0 }) (z_Py (dC, dI) vwCl (yt ca) zw_nest [.ref mo] (fun H => H.size = sz ∧ yMo dC dI mo th (ad 0) sm H ∧ yW dC dI ca ad (yM 0) H)) (z_Qd (fun r => r = FP.dconst0) (fun H => yMo dC dI mo 0 (ad 0) sm H ∧ yW dC dI ca ad (yM 0) H) (yA mo ad sz)) 0 0 (yA mo ad sz) := by
  refine Met.ofW (cc := cX10_meanWarmth) (maxL := 4) (ret := (some .double)) (by decide) rfl ?_
  intro p e s m args below meth c s₁ B9 hml hv
  obtain ⟨rfl, ⟨hz, hMo, hH⟩, hK, hN, hX⟩ := hv
  have hx := B9.exec
  have hb := B9.bytes
  have hr := B9.returns
  have hts := atoms_spec (ws := wsX10_meanWarmth) B9.pre
  have hown : s.vm.findClass RX10 = some m.cls := findClass_of_methodNamed B9.named
  have hlocks := B9.notSynchronized
  have hS : va_S (yA mo ad sz) s.heap s.heap [] := va_S.rf
  have hba : ∀ i, yd.1 i < 200 → ad i < sz := fun i hi => by have b0 := hH.lt hi; omega
  have hbm : mo < sz := by have b0 := va_at.lt hMo; exact hz ▸ b0
  have hAs : ∀ q, s.heap.size ≤ q → (yA mo ad sz) q := fun q h => Or.inr (Or.inr (hz ▸ h))
  have hinX10 : ∀ w ∈ u_ws RX10 TX10 3, w ∈ wsX10_meanWarmth := by decide +kernel
  have hinX9 : ∀ w ∈ u_ws RX9 TX9 24, w ∈ wsX10_meanWarmth := by decide +kernel
  have hl := lv_entry ([.ref mo]) (n := 4) (Nat.le_of_ble_eq_true rfl)
  rw [lg_entry_eq]
  generalize (lg_sl ([.ref mo]) ++ List.replicate (4 - (lg_sl ([.ref mo])).length) Slot.unset).toArray = ls at hl ⊢
  have hl : lv_has ls 4 [(0, .ref mo)] := hl
  refine lv_aload_n hx hb dX10_meanWarmth_0 rfl (lv_at hl 0 rfl) ?_
  refine lv_iconst (v := 0) hx hb dX10_meanWarmth_1 (by decide) ?_
  refine yo_put (D := (dC, dI)) (cl := vwCl) (C := RX10) (T := TX10) (N := 3) (ci := 10) (ty := .int) hx hb hts hinX10 tyX10 tyX10_ok nmX10 hown hK hMo hS (Or.inl rfl) rfl 0 (by decide) (hts (.fieldLink RX10 16 "SteamfieldModel" "thrown" "I") (by decide +kernel)) (fun _ h9 => h9) rfl (by decide +kernel) rfl rfl (show 0 < 3 by decide) dX10_meanWarmth_2 (fun H locs hMo z9 oq hS => ?_)
  have hMo : yMo dC dI mo 0 (ad 0) sm H := hMo
  have hH := hH.kept (fun i hi => oq _ (hm i hi))
  refine lv_iconst (v := 0) hx hb dX10_meanWarmth_5 (by decide) ?_
  refine lv_istore_n (lv' := [(1, .int 0), (0, .ref mo)]) hx hb dX10_meanWarmth_6 rfl hl (by decide) rfl (fun ls hl => ?_)
  refine lv_iconst (v := 0) hx hb dX10_meanWarmth_7 (by decide) ?_
  refine lv_istore_n (lv' := [(2, .int 0), (1, .int 0), (0, .ref mo)]) hx hb dX10_meanWarmth_8 rfl hl (by decide) rfl (fun ls hl => ?_)
  refine lv_iconst (v := 0) hx hb dX10_meanWarmth_9 (by decide) ?_
  refine lv_istore_n (lv' := [(3, .int 0), (2, .int 0), (1, .int 0), (0, .ref mo)]) hx hb dX10_meanWarmth_10 rfl hl (by decide) rfl (fun ls hl => ?_)
  refine lv_iload_n hx hb dX10_meanWarmth_11 rfl (lv_at hl 0 rfl) ?_
  refine lv_aload_n hx hb dX10_meanWarmth_12 rfl (lv_at hl 3 rfl) ?_
  refine yo_get (D := (dC, dI)) (cl := vwCl) (C := RX10) (T := TX10) (N := 3) (ci := 10) (v := .ref (ad 0)) hx hb hts hinX10 hown hK hMo rfl 1 (by decide) (hts (.fieldLink RX10 10 "SteamfieldModel" "field" "LSteamfieldModel$Field;") (by decide +kernel)) (fun _ h9 => h9) rfl dX10_meanWarmth_13 ?_
  refine z_giN (D := (dC, dI)) (cl := vwCl) (C := RX9) (T := TX9) (N := 24) (ci := 9) (k := 4) hx hb hts hinX9 hown hK hH (i := 0) yk_0 (by decide) rfl (by decide) rfl (hN (.fieldLinkNest RX10 20 "SteamfieldModel$Field" "manyBlocks" "I" "SteamfieldModel") (by decide +kernel)) (fun _ h9 => h9) dX10_meanWarmth_16 ?_
  refine y_num (b := 0) rfl ?_
  refine lv_icmp_ge (tgt := 63) hx hb dX10_meanWarmth_19 (by decide) (fun _ => ?_) (fun c9 => absurd c9 (by decide))
  refine lv_iload_n hx hb dX10_meanWarmth_63 rfl (lv_at hl 1 rfl) ?_
  refine lv_if_ne (tgt := 71) hx hb dX10_meanWarmth_64 (by decide) (fun c9 => absurd c9 (by decide)) (fun _ => ?_)
  refine lv_dconst0 hx hb dX10_meanWarmth_67 ?_
  refine lv_goto (tgt := 76) hx hb dX10_meanWarmth_68 (by decide) ?_
  refine W.widen (k := 0) (n := 0) (Nat.le_of_ble_eq_true rfl) (Nat.le_of_ble_eq_true rfl) ?_
  exact W.dret (v := FP.dconst0) hx hb hr (fun t ht hW => ⟨⟨FP.dconst0, (), rfl, rfl, z_to (B := (fun H => yMo dC dI mo 0 (ad 0) sm H ∧ yW dC dI ca ad (yM 0) H)) ht ⟨hMo, hH⟩⟩, hS.F ht⟩) hS.2.2 dX10_meanWarmth_76
