set_option maxHeartbeats 4000000 in
set_option maxRecDepth 100000 in
theorem m_X9_light (l : Launch) (dC : Nat → ClassId) (dI : Nat → Nat → Nat) (ca : Nat → ClassId) (ad : Nat → Nat) (hI : z_I yd ad) (n : Nat) (hn : n < 1000) : Met l yX9_light wsX9_light ({ frames := 0, cells := 0, slots := 0, locals := 0 }) (z_Py (dC, dI) vwCl (yt ca) zw_nest [.ref (ad 0)] (fun H => yW dC dI ca ad (yM n) H)) (z_Qi 0 (fun H => yW dC dI ca ad (yM n) H) (z_A yd ad)) 0 0 (z_A yd ad) := by
  refine Met.ofW (cc := cX9_light) (maxL := 2) (ret := (some .int)) (by decide) rfl ?_
  intro p e s m args below meth c s₁ B9 hml hv
  obtain ⟨rfl, hH, hK, hN, hX⟩ := hv
  have hx := B9.exec
  have hb := B9.bytes
  have hr := B9.returns
  have hts := atoms_spec (ws := wsX9_light) B9.pre
  have hown : s.vm.findClass RX9 = some m.cls := findClass_of_methodNamed B9.named
  have hlocks := B9.notSynchronized
  have hS : va_S (z_A yd ad) s.heap s.heap [] := va_S.rf
  have hinX9 : ∀ w ∈ u_ws RX9 TX9 24, w ∈ wsX9_light := by decide +kernel
  have hl := lv_entry ([.ref (ad 0)]) (n := 2) (Nat.le_of_ble_eq_true rfl)
  rw [lg_entry_eq]
  generalize (lg_sl ([.ref (ad 0)]) ++ List.replicate (2 - (lg_sl ([.ref (ad 0)])).length) Slot.unset).toArray = ls at hl ⊢
  have hl : lv_has ls 2 [(0, .ref (ad 0))] := hl
  refine lv_aload_n hx hb dX9_light_0 rfl (lv_at hl 0 rfl) ?_
  refine z_gr (D := (dC, dI)) (cl := vwCl) (C := RX9) (T := TX9) (N := 24) (ci := 9) (k := 13) hx hb hts hinX9 hown hK hH (i := 0) yk_0 (by decide) rfl (by decide) rfl yr_13 (hts (.fieldLink RX9 41 "SteamfieldModel$Field" "shocks" "[I") (by decide +kernel)) (fun _ h9 => h9) dX9_light_1 ?_
  refine lv_iconst (v := 0) hx hb dX9_light_4 (by decide) ?_
  refine z_al (t0 := 0) (D := (dC, dI)) (cl := vwCl) (tys := yt ca) hx hb hK hH (i := 39) yk_39 rfl (show vp_in 0 4 from zx (n := 0) rfl (by decide) (by decide)) dX9_light_5 ?_
  refine y_num (b := 0) rfl ?_
  refine lv_aload_n hx hb dX9_light_6 rfl (lv_at hl 0 rfl) ?_
  refine z_gr (D := (dC, dI)) (cl := vwCl) (C := RX9) (T := TX9) (N := 24) (ci := 9) (k := 13) hx hb hts hinX9 hown hK hH (i := 0) yk_0 (by decide) rfl (by decide) rfl yr_13 (hts (.fieldLink RX9 41 "SteamfieldModel$Field" "shocks" "[I") (by decide +kernel)) (fun _ h9 => h9) dX9_light_7 ?_
  refine lv_iconst (v := 1) hx hb dX9_light_10 (by decide) ?_
  refine z_al (t0 := 0) (D := (dC, dI)) (cl := vwCl) (tys := yt ca) hx hb hK hH (i := 39) yk_39 rfl (show vp_in 1 4 from zx (n := 1) rfl (by decide) (by decide)) dX9_light_11 ?_
  refine y_num (b := 0) rfl ?_
  refine lv_iadd hx hb dX9_light_12 ?_
  refine y_num (b := 0) (by decide) ?_
  refine lv_aload_n hx hb dX9_light_13 rfl (lv_at hl 0 rfl) ?_
  refine z_gr (D := (dC, dI)) (cl := vwCl) (C := RX9) (T := TX9) (N := 24) (ci := 9) (k := 13) hx hb hts hinX9 hown hK hH (i := 0) yk_0 (by decide) rfl (by decide) rfl yr_13 (hts (.fieldLink RX9 41 "SteamfieldModel$Field" "shocks" "[I") (by decide +kernel)) (fun _ h9 => h9) dX9_light_14 ?_
  refine lv_iconst (v := 2) hx hb dX9_light_17 (by decide) ?_
  refine z_al (t0 := 0) (D := (dC, dI)) (cl := vwCl) (tys := yt ca) hx hb hK hH (i := 39) yk_39 rfl (show vp_in 2 4 from zx (n := 2) rfl (by decide) (by decide)) dX9_light_18 ?_
  refine y_num (b := 0) rfl ?_
  refine lv_iadd hx hb dX9_light_19 ?_
  refine y_num (b := 0) (by decide) ?_
  refine lv_aload_n hx hb dX9_light_20 rfl (lv_at hl 0 rfl) ?_
  refine z_gr (D := (dC, dI)) (cl := vwCl) (C := RX9) (T := TX9) (N := 24) (ci := 9) (k := 13) hx hb hts hinX9 hown hK hH (i := 0) yk_0 (by decide) rfl (by decide) rfl yr_13 (hts (.fieldLink RX9 41 "SteamfieldModel$Field" "shocks" "[I") (by decide +kernel)) (fun _ h9 => h9) dX9_light_21 ?_
  refine lv_iconst (v := 3) hx hb dX9_light_24 (by decide) ?_
  refine z_al (t0 := 0) (D := (dC, dI)) (cl := vwCl) (tys := yt ca) hx hb hK hH (i := 39) yk_39 rfl (show vp_in 3 4 from zx (n := 3) rfl (by decide) (by decide)) dX9_light_25 ?_
  refine y_num (b := 0) rfl ?_
  refine lv_iadd hx hb dX9_light_26 ?_
  refine y_num (b := 0) (by decide) ?_
  refine lv_istore_n (lv' := [(1, .int 0), (0, .ref (ad 0))]) hx hb dX9_light_27 rfl hl (by decide) rfl (fun ls hl => ?_)
  refine lv_iload_n hx hb dX9_light_28 rfl (lv_at hl 0 rfl) ?_
  refine lv_bipush (v := 10) hx hb dX9_light_29 (by decide) ?_
  refine lv_icmp_ge (tgt := 38) hx hb dX9_light_31 (by decide) (fun c9 => absurd c9 (by decide)) (fun _ => ?_)
  refine lv_iconst (v := 0) hx hb dX9_light_34 (by decide) ?_
  refine lv_goto (tgt := 49) hx hb dX9_light_35 (by decide) ?_
  refine W.widen (k := 0) (n := 0) (Nat.le_of_ble_eq_true rfl) (Nat.le_of_ble_eq_true rfl) ?_
  exact W.iret (v := 0) hx hb hr (fun t ht hW => ⟨⟨0, (), rfl, rfl, z_to (B := (fun H => yW dC dI ca ad (yM n) H)) ht hH⟩, hS.F ht⟩) hS.2.2 dX9_light_49
set_option maxHeartbeats 4000000 in
set_option maxRecDepth 100000 in
theorem m_X9_lacks (l : Launch) (dC : Nat → ClassId) (dI : Nat → Nat → Nat) (ca : Nat → ClassId) (ad : Nat → Nat) (hI : z_I yd ad) (n : Nat) (hn : n < 1000) : Met l yX9_lacks wsX9_lacks ({ frames := 0, cells := 0, slots := 0, locals := 0 }) (z_Py (dC, dI) vwCl (yt ca) zw_nest [.ref (ad 0)] (fun H => yW dC dI ca ad (yM n) H)) (z_Qi 0 (fun H => yW dC dI ca ad (yM n) H) (z_A yd ad)) 0 0 (z_A yd ad) := by
  refine Met.ofW (cc := cX9_lacks) (maxL := 3) (ret := (some .int)) (by decide) rfl ?_
  intro p e s m args below meth c s₁ B9 hml hv
  obtain ⟨rfl, hH, hK, hN, hX⟩ := hv
  have hx := B9.exec
  have hb := B9.bytes
  have hr := B9.returns
  have hts := atoms_spec (ws := wsX9_lacks) B9.pre
  have hown : s.vm.findClass RX9 = some m.cls := findClass_of_methodNamed B9.named
  have hlocks := B9.notSynchronized
  have hS : va_S (z_A yd ad) s.heap s.heap [] := va_S.rf
  have hinX9 : ∀ w ∈ u_ws RX9 TX9 24, w ∈ wsX9_lacks := by decide +kernel
  have hl := lv_entry ([.ref (ad 0)]) (n := 3) (Nat.le_of_ble_eq_true rfl)
  rw [lg_entry_eq]
  generalize (lg_sl ([.ref (ad 0)]) ++ List.replicate (3 - (lg_sl ([.ref (ad 0)])).length) Slot.unset).toArray = ls at hl ⊢
  have hl : lv_has ls 3 [(0, .ref (ad 0))] := hl
  refine lv_iconst (v := 0) hx hb dX9_lacks_0 (by decide) ?_
  refine lv_istore_n (lv' := [(1, .int 0), (0, .ref (ad 0))]) hx hb dX9_lacks_1 rfl hl (by decide) rfl (fun ls hl => ?_)
  refine lv_iconst (v := 0) hx hb dX9_lacks_2 (by decide) ?_
  refine lv_istore_n (lv' := [(2, .int 0), (1, .int 0), (0, .ref (ad 0))]) hx hb dX9_lacks_3 rfl hl (by decide) rfl (fun ls hl => ?_)
  refine lv_iload_n hx hb dX9_lacks_4 rfl (lv_at hl 0 rfl) ?_
  refine lv_aload_n hx hb dX9_lacks_5 rfl (lv_at hl 2 rfl) ?_
  refine z_gi (D := (dC, dI)) (cl := vwCl) (C := RX9) (T := TX9) (N := 24) (ci := 9) (k := 7) hx hb hts hinX9 hown hK hH (i := 0) yk_0 (by decide) rfl (by decide) rfl (hts (.fieldLink RX9 69 "SteamfieldModel$Field" "manySprings" "I") (by decide +kernel)) (fun _ h9 => h9) dX9_lacks_6 ?_
  refine y_num (b := 0) rfl ?_
  refine lv_icmp_ge (tgt := 29) hx hb dX9_lacks_9 (by decide) (fun _ => ?_) (fun c9 => absurd c9 (by decide))
  refine lv_iload_n hx hb dX9_lacks_29 rfl (lv_at hl 1 rfl) ?_
  refine W.widen (k := 0) (n := 0) (Nat.le_of_ble_eq_true rfl) (Nat.le_of_ble_eq_true rfl) ?_
  exact W.iret (v := 0) hx hb hr (fun t ht hW => ⟨⟨0, (), rfl, rfl, z_to (B := (fun H => yW dC dI ca ad (yM n) H)) ht hH⟩, hS.F ht⟩) hS.2.2 dX9_lacks_30
set_option maxHeartbeats 4000000 in
set_option maxRecDepth 100000 in
theorem m_X9_share (l : Launch) (dC : Nat → ClassId) (dI : Nat → Nat → Nat) (ca : Nat → ClassId) (ad : Nat → Nat) (hI : z_I yd ad) (n : Nat) (hn : n < 1000) (a1 : Int32): Met l yX9_share wsX9_share ({ frames := 0, cells := 0, slots := 0, locals := 0 }) (z_Py (dC, dI) vwCl (yt ca) zw_nest [.ref (ad 0), .int a1] (fun H => yW dC dI ca ad (yM n) H)) (z_Qi 0 (fun H => yW dC dI ca ad (yM n) H) (z_A yd ad)) 0 0 (z_A yd ad) := by
  refine Met.ofW (cc := cX9_share) (maxL := 4) (ret := (some .int)) (by decide) rfl ?_
  intro p e s m args below meth c s₁ B9 hml hv
  obtain ⟨rfl, hH, hK, hN, hX⟩ := hv
  have hx := B9.exec
  have hb := B9.bytes
  have hr := B9.returns
  have hts := atoms_spec (ws := wsX9_share) B9.pre
  have hown : s.vm.findClass RX9 = some m.cls := findClass_of_methodNamed B9.named
  have hlocks := B9.notSynchronized
  have hS : va_S (z_A yd ad) s.heap s.heap [] := va_S.rf
  have hinX9 : ∀ w ∈ u_ws RX9 TX9 24, w ∈ wsX9_share := by decide +kernel
  have hl := lv_entry ([.ref (ad 0), .int a1]) (n := 4) (Nat.le_of_ble_eq_true rfl)
  rw [lg_entry_eq]
  generalize (lg_sl ([.ref (ad 0), .int a1]) ++ List.replicate (4 - (lg_sl ([.ref (ad 0), .int a1])).length) Slot.unset).toArray = ls at hl ⊢
  have hl : lv_has ls 4 [(0, .ref (ad 0)), (1, .int a1)] := hl
  refine lv_iconst (v := 0) hx hb dX9_share_0 (by decide) ?_
  refine lv_istore_n (lv' := [(2, .int 0), (0, .ref (ad 0)), (1, .int a1)]) hx hb dX9_share_1 rfl hl (by decide) rfl (fun ls hl => ?_)
  refine lv_iconst (v := 0) hx hb dX9_share_2 (by decide) ?_
  refine lv_istore_n (lv' := [(3, .int 0), (2, .int 0), (0, .ref (ad 0)), (1, .int a1)]) hx hb dX9_share_3 rfl hl (by decide) rfl (fun ls hl => ?_)
  refine lv_iload_n hx hb dX9_share_4 rfl (lv_at hl 0 rfl) ?_
  refine lv_aload_n hx hb dX9_share_5 rfl (lv_at hl 2 rfl) ?_
  refine z_gi (D := (dC, dI)) (cl := vwCl) (C := RX9) (T := TX9) (N := 24) (ci := 9) (k := 4) hx hb hts hinX9 hown hK hH (i := 0) yk_0 (by decide) rfl (by decide) rfl (hts (.fieldLink RX9 60 "SteamfieldModel$Field" "manyBlocks" "I") (by decide +kernel)) (fun _ h9 => h9) dX9_share_6 ?_
  refine y_num (b := 0) rfl ?_
  refine lv_icmp_ge (tgt := 45) hx hb dX9_share_9 (by decide) (fun _ => ?_) (fun c9 => absurd c9 (by decide))
  refine lv_iload_n hx hb dX9_share_45 rfl (lv_at hl 1 rfl) ?_
  refine W.widen (k := 0) (n := 0) (Nat.le_of_ble_eq_true rfl) (Nat.le_of_ble_eq_true rfl) ?_
  exact W.iret (v := 0) hx hb hr (fun t ht hW => ⟨⟨0, (), rfl, rfl, z_to (B := (fun H => yW dC dI ca ad (yM n) H)) ht hH⟩, hS.F ht⟩) hS.2.2 dX9_share_46
set_option maxHeartbeats 4000000 in
set_option maxRecDepth 100000 in
theorem m_X9_sum (l : Launch) (dC : Nat → ClassId) (dI : Nat → Nat → Nat) (ca : Nat → ClassId) (ad : Nat → Nat) (hI : z_I yd ad) (n : Nat) (hn : n < 1000) (a1 : Int32): Met l yX9_sum wsX9_sum ({ frames := 0, cells := 0, slots := 0, locals := 0 }) (z_Py (dC, dI) vwCl (yt ca) zw_nest [.ref (ad 0), .int a1] (fun H => yW dC dI ca ad (yM n) H)) (z_Qi 0 (fun H => yW dC dI ca ad (yM n) H) (z_A yd ad)) 0 0 (z_A yd ad) := by
  refine Met.ofW (cc := cX9_sum) (maxL := 4) (ret := (some .int)) (by decide) rfl ?_
  intro p e s m args below meth c s₁ B9 hml hv
  obtain ⟨rfl, hH, hK, hN, hX⟩ := hv
  have hx := B9.exec
  have hb := B9.bytes
  have hr := B9.returns
  have hts := atoms_spec (ws := wsX9_sum) B9.pre
  have hown : s.vm.findClass RX9 = some m.cls := findClass_of_methodNamed B9.named
  have hlocks := B9.notSynchronized
  have hS : va_S (z_A yd ad) s.heap s.heap [] := va_S.rf
  have hinX9 : ∀ w ∈ u_ws RX9 TX9 24, w ∈ wsX9_sum := by decide +kernel
  have hl := lv_entry ([.ref (ad 0), .int a1]) (n := 4) (Nat.le_of_ble_eq_true rfl)
  rw [lg_entry_eq]
  generalize (lg_sl ([.ref (ad 0), .int a1]) ++ List.replicate (4 - (lg_sl ([.ref (ad 0), .int a1])).length) Slot.unset).toArray = ls at hl ⊢
  have hl : lv_has ls 4 [(0, .ref (ad 0)), (1, .int a1)] := hl
  refine lv_iconst (v := 0) hx hb dX9_sum_0 (by decide) ?_
  refine lv_istore_n (lv' := [(2, .int 0), (0, .ref (ad 0)), (1, .int a1)]) hx hb dX9_sum_1 rfl hl (by decide) rfl (fun ls hl => ?_)
  refine lv_iconst (v := 0) hx hb dX9_sum_2 (by decide) ?_
  refine lv_istore_n (lv' := [(3, .int 0), (2, .int 0), (0, .ref (ad 0)), (1, .int a1)]) hx hb dX9_sum_3 rfl hl (by decide) rfl (fun ls hl => ?_)
  refine lv_iload_n hx hb dX9_sum_4 rfl (lv_at hl 0 rfl) ?_
  refine lv_aload_n hx hb dX9_sum_5 rfl (lv_at hl 2 rfl) ?_
  refine z_gi (D := (dC, dI)) (cl := vwCl) (C := RX9) (T := TX9) (N := 24) (ci := 9) (k := 4) hx hb hts hinX9 hown hK hH (i := 0) yk_0 (by decide) rfl (by decide) rfl (hts (.fieldLink RX9 60 "SteamfieldModel$Field" "manyBlocks" "I") (by decide +kernel)) (fun _ h9 => h9) dX9_sum_6 ?_
  refine y_num (b := 0) rfl ?_
  refine lv_icmp_ge (tgt := 29) hx hb dX9_sum_9 (by decide) (fun _ => ?_) (fun c9 => absurd c9 (by decide))
  refine lv_iload_n hx hb dX9_sum_29 rfl (lv_at hl 1 rfl) ?_
  refine W.widen (k := 0) (n := 0) (Nat.le_of_ble_eq_true rfl) (Nat.le_of_ble_eq_true rfl) ?_
  exact W.iret (v := 0) hx hb hr (fun t ht hW => ⟨⟨0, (), rfl, rfl, z_to (B := (fun H => yW dC dI ca ad (yM n) H)) ht hH⟩, hS.F ht⟩) hS.2.2 dX9_sum_30
set_option maxHeartbeats 4000000 in
set_option maxRecDepth 100000 in
theorem m_X9_drive (l : Launch) (dC : Nat → ClassId) (dI : Nat → Nat → Nat) (ca : Nat → ClassId) (ad : Nat → Nat) (hI : z_I yd ad) (n : Nat) (hn : n < 1000) : Met l yX9_drive wsX9_drive ({ frames := 1, cells := 0, slots := 0, locals := 21 }) (z_Py (dC, dI) vwCl (yt ca) zw_nest [.ref (ad 0), .int 0] (fun H => yW dC dI ca ad (yM n) H)) (z_Qv (fun H => yW dC dI ca ad (yM n) H) (z_A yd ad)) 0 0 (z_A yd ad) := by
  refine Met.ofW (cc := cX9_drive) (maxL := 3) (ret := none) (by decide) rfl ?_
  intro p e s m args below meth c s₁ B9 hml hv
  obtain ⟨rfl, hH, hK, hN, hX⟩ := hv
  have hx := B9.exec
  have hb := B9.bytes
  have hr := B9.returns
  have hts := atoms_spec (ws := wsX9_drive) B9.pre
  have hown : s.vm.findClass RX9 = some m.cls := findClass_of_methodNamed B9.named
  have hlocks := B9.notSynchronized
  have hS : va_S (z_A yd ad) s.heap s.heap [] := va_S.rf
  have hinX9 : ∀ w ∈ u_ws RX9 TX9 24, w ∈ wsX9_drive := by decide +kernel
  have hl := lv_entry ([.ref (ad 0), .int 0]) (n := 3) (Nat.le_of_ble_eq_true rfl)
  rw [lg_entry_eq]
  generalize (lg_sl ([.ref (ad 0), .int 0]) ++ List.replicate (3 - (lg_sl ([.ref (ad 0), .int 0])).length) Slot.unset).toArray = ls at hl ⊢
  have hl : lv_has ls 3 [(0, .ref (ad 0)), (1, .int 0)] := hl
  refine lv_aload_n hx hb dX9_drive_0 rfl (lv_at hl 0 rfl) ?_
  refine z_gi (D := (dC, dI)) (cl := vwCl) (C := RX9) (T := TX9) (N := 24) (ci := 9) (k := 16) hx hb hts hinX9 hown hK hH (i := 0) yk_0 (by decide) rfl (by decide) rfl (hts (.fieldLink RX9 48 "SteamfieldModel$Field" "runs" "Z") (by decide +kernel)) (fun _ h9 => h9) dX9_drive_1 ?_
  refine y_num (b := 1) rfl ?_
  refine lv_if_eq (tgt := 18) hx hb dX9_drive_4 (by decide) (fun c9 => absurd c9 (by decide)) (fun _ => ?_)
  refine lv_aload_n hx hb dX9_drive_7 rfl (lv_at hl 0 rfl) ?_
  refine z_gi (D := (dC, dI)) (cl := vwCl) (C := RX9) (T := TX9) (N := 24) (ci := 9) (k := 14) hx hb hts hinX9 hown hK hH (i := 0) yk_0 (by decide) rfl (by decide) rfl (hts (.fieldLink RX9 44 "SteamfieldModel$Field" "size" "I") (by decide +kernel)) (fun _ h9 => h9) dX9_drive_8 ?_
  refine y_num (b := 20) rfl ?_
  refine lv_iload_n hx hb dX9_drive_11 rfl (lv_at hl 1 rfl) ?_
  refine va_mmin hx hb (hml.trans hl.1.symm) hown (hts (.methodLink RX9 84 Lib.Math.min.name) (by decide +kernel)) (hts (.static Lib.Math.min.name) (by decide +kernel)) (hts (.initialized "java/lang/Math") (by decide +kernel)) (hts (.code Lib.Math.min.name Lib.Math.min.code 2 (some .int)) (by decide +kernel)) (Nat.le_of_ble_eq_true rfl) (Nat.le_of_ble_eq_true rfl) (Nat.le_refl _) (Nat.le_refl _) dX9_drive_12 ?_
  refine y_num (b := 0) (by decide) ?_
  refine lv_goto (tgt := 19) hx hb dX9_drive_15 (by decide) ?_
  refine lv_istore_n (lv' := [(2, .int 0), (0, .ref (ad 0)), (1, .int 0)]) hx hb dX9_drive_19 rfl hl (by decide) rfl (fun ls hl => ?_)
  refine lv_aload_n hx hb dX9_drive_20 rfl (lv_at hl 1 rfl) ?_
  refine lv_iconst (v := 2) hx hb dX9_drive_21 (by decide) ?_
  refine lv_iload_n hx hb dX9_drive_22 rfl (lv_at hl 0 rfl) ?_
  refine lv_imul hx hb dX9_drive_23 ?_
  refine y_num (b := 0) (by decide) ?_
  refine zp_i (D := (dC, dI)) (cl := vwCl) (C := RX9) (T := TX9) (N := 24) (ci := 9) (k := 18) (ty := .int) hx hb hts hinX9 tyX9 tyX9_ok nmX9 hown hK hH hI hS (fun _ h => h) (i := 0) yk_0 (by decide) rfl (by decide) rfl (hts (.fieldLink RX9 142 "SteamfieldModel$Field" "power" "I") (by decide +kernel)) (fun _ h9 => h9) rfl (by decide +kernel) rfl rfl dX9_drive_24 (fun H locs hH oq hS => ?_)
  rw [zu_same (show (yM n) 0 18 = 0 from rfl)] at hH
  refine lv_aload_n hx hb dX9_drive_27 rfl (lv_at hl 1 rfl) ?_
  refine lv_dup hx hb dX9_drive_28 rfl ?_
  refine z_gi (D := (dC, dI)) (cl := vwCl) (C := RX9) (T := TX9) (N := 24) (ci := 9) (k := 19) hx hb hts hinX9 hown hK hH (i := 0) yk_0 (by decide) rfl (by decide) rfl (hts (.fieldLink RX9 145 "SteamfieldModel$Field" "allPower" "I") (by decide +kernel)) (fun _ h9 => h9) dX9_drive_29 ?_
  refine y_num (b := 0) rfl ?_
  refine lv_aload_n hx hb dX9_drive_32 rfl (lv_at hl 1 rfl) ?_
  refine z_gi (D := (dC, dI)) (cl := vwCl) (C := RX9) (T := TX9) (N := 24) (ci := 9) (k := 18) hx hb hts hinX9 hown hK hH (i := 0) yk_0 (by decide) rfl (by decide) rfl (hts (.fieldLink RX9 142 "SteamfieldModel$Field" "power" "I") (by decide +kernel)) (fun _ h9 => h9) dX9_drive_33 ?_
  refine y_num (b := 0) rfl ?_
  refine lv_iadd hx hb dX9_drive_36 ?_
  refine y_num (b := 0) (by decide) ?_
  refine zp_i (D := (dC, dI)) (cl := vwCl) (C := RX9) (T := TX9) (N := 24) (ci := 9) (k := 19) (ty := .int) hx hb hts hinX9 tyX9 tyX9_ok nmX9 hown hK hH hI hS (fun _ h => h) (i := 0) yk_0 (by decide) rfl (by decide) rfl (hts (.fieldLink RX9 145 "SteamfieldModel$Field" "allPower" "I") (by decide +kernel)) (fun _ h9 => h9) rfl (by decide +kernel) rfl rfl dX9_drive_37 (fun H locs hH oq hS => ?_)
  rw [zu_same (show (yM n) 0 19 = 0 from rfl)] at hH
  refine lv_aload_n hx hb dX9_drive_40 rfl (lv_at hl 1 rfl) ?_
  refine lv_dup hx hb dX9_drive_41 rfl ?_
  refine z_gi (D := (dC, dI)) (cl := vwCl) (C := RX9) (T := TX9) (N := 24) (ci := 9) (k := 21) hx hb hts hinX9 hown hK hH (i := 0) yk_0 (by decide) rfl (by decide) rfl (hts (.fieldLink RX9 148 "SteamfieldModel$Field" "used" "I") (by decide +kernel)) (fun _ h9 => h9) dX9_drive_42 ?_
  refine y_num (b := 0) rfl ?_
  refine lv_iload_n hx hb dX9_drive_45 rfl (lv_at hl 0 rfl) ?_
  refine lv_iadd hx hb dX9_drive_46 ?_
  refine y_num (b := 0) (by decide) ?_
  refine zp_i (D := (dC, dI)) (cl := vwCl) (C := RX9) (T := TX9) (N := 24) (ci := 9) (k := 21) (ty := .int) hx hb hts hinX9 tyX9 tyX9_ok nmX9 hown hK hH hI hS (fun _ h => h) (i := 0) yk_0 (by decide) rfl (by decide) rfl (hts (.fieldLink RX9 148 "SteamfieldModel$Field" "used" "I") (by decide +kernel)) (fun _ h9 => h9) rfl (by decide +kernel) rfl rfl dX9_drive_47 (fun H locs hH oq hS => ?_)
  rw [zu_same (show (yM n) 0 21 = 0 from rfl)] at hH
  refine lv_aload_n hx hb dX9_drive_50 rfl (lv_at hl 1 rfl) ?_
  refine lv_dup hx hb dX9_drive_51 rfl ?_
  refine z_gi (D := (dC, dI)) (cl := vwCl) (C := RX9) (T := TX9) (N := 24) (ci := 9) (k := 22) hx hb hts hinX9 hown hK hH (i := 0) yk_0 (by decide) rfl (by decide) rfl (hts (.fieldLink RX9 151 "SteamfieldModel$Field" "vented" "I") (by decide +kernel)) (fun _ h9 => h9) dX9_drive_52 ?_
  refine y_num (b := 0) rfl ?_
  refine lv_iload_n hx hb dX9_drive_55 rfl (lv_at hl 2 rfl) ?_
  refine lv_iload_n hx hb dX9_drive_56 rfl (lv_at hl 0 rfl) ?_
  refine lv_isub hx hb dX9_drive_57 ?_
  refine y_num (b := 0) (by decide) ?_
  refine lv_iadd hx hb dX9_drive_58 ?_
  refine y_num (b := 0) (by decide) ?_
  refine zp_i (D := (dC, dI)) (cl := vwCl) (C := RX9) (T := TX9) (N := 24) (ci := 9) (k := 22) (ty := .int) hx hb hts hinX9 tyX9 tyX9_ok nmX9 hown hK hH hI hS (fun _ h => h) (i := 0) yk_0 (by decide) rfl (by decide) rfl (hts (.fieldLink RX9 151 "SteamfieldModel$Field" "vented" "I") (by decide +kernel)) (fun _ h9 => h9) rfl (by decide +kernel) rfl rfl dX9_drive_59 (fun H locs hH oq hS => ?_)
  rw [zu_same (show (yM n) 0 22 = 0 from rfl)] at hH
  refine lv_aload_n hx hb dX9_drive_62 rfl (lv_at hl 1 rfl) ?_
  refine z_gi (D := (dC, dI)) (cl := vwCl) (C := RX9) (T := TX9) (N := 24) (ci := 9) (k := 14) hx hb hts hinX9 hown hK hH (i := 0) yk_0 (by decide) rfl (by decide) rfl (hts (.fieldLink RX9 44 "SteamfieldModel$Field" "size" "I") (by decide +kernel)) (fun _ h9 => h9) dX9_drive_63 ?_
  refine y_num (b := 20) rfl ?_
  refine lv_if_le (tgt := 84) hx hb dX9_drive_66 (by decide) (fun c9 => absurd c9 (by decide)) (fun _ => ?_)
  refine lv_iload_n hx hb dX9_drive_69 rfl (lv_at hl 2 rfl) ?_
  refine lv_iconst (v := 2) hx hb dX9_drive_70 (by decide) ?_
  refine lv_aload_n hx hb dX9_drive_71 rfl (lv_at hl 1 rfl) ?_
  refine z_gi (D := (dC, dI)) (cl := vwCl) (C := RX9) (T := TX9) (N := 24) (ci := 9) (k := 14) hx hb hts hinX9 hown hK hH (i := 0) yk_0 (by decide) rfl (by decide) rfl (hts (.fieldLink RX9 44 "SteamfieldModel$Field" "size" "I") (by decide +kernel)) (fun _ h9 => h9) dX9_drive_72 ?_
  refine y_num (b := 20) rfl ?_
  refine lv_imul hx hb dX9_drive_75 ?_
  refine y_num (b := 40) (by decide) ?_
  refine lv_icmp_le (tgt := 84) hx hb dX9_drive_76 (by decide) (fun _ => ?_) (fun c9 => absurd c9 (by decide))
  refine W.widen (k := 0) (n := 0) (Nat.le_of_ble_eq_true rfl) (Nat.le_of_ble_eq_true rfl) ?_
  exact W.vret hx hb hr (fun t ht hW => ⟨⟨(), rfl, trivial, z_to (B := (fun H => yW dC dI ca ad (yM n) H)) ht hH⟩, hS.F ht⟩) hS.2.2 dX9_drive_84
set_option maxHeartbeats 4000000 in
set_option maxRecDepth 100000 in
theorem m_X9_dip (l : Launch) (dC : Nat → ClassId) (dI : Nat → Nat → Nat) (ca : Nat → ClassId) (ad : Nat → Nat) (hI : z_I yd ad) (n : Nat) (hn : n < 1000) : Met l yX9_dip wsX9_dip ({ frames := 0, cells := 0, slots := 0, locals := 0 }) (z_Py (dC, dI) vwCl (yt ca) zw_nest [.ref (ad 0), .int 0] (fun H => yW dC dI ca ad (yM n) H)) (z_Qv (fun H => yW dC dI ca ad (yM n) H) (z_A yd ad)) 0 0 (z_A yd ad) := by
  refine Met.ofW (cc := cX9_dip) (maxL := 4) (ret := none) (by decide) rfl ?_
  intro p e s m args below meth c s₁ B9 hml hv
  obtain ⟨rfl, hH, hK, hN, hX⟩ := hv
  have hx := B9.exec
  have hb := B9.bytes
  have hr := B9.returns
  have hts := atoms_spec (ws := wsX9_dip) B9.pre
  have hown : s.vm.findClass RX9 = some m.cls := findClass_of_methodNamed B9.named
  have hlocks := B9.notSynchronized
  have hS : va_S (z_A yd ad) s.heap s.heap [] := va_S.rf
  have hinX9 : ∀ w ∈ u_ws RX9 TX9 24, w ∈ wsX9_dip := by decide +kernel
  have hl := lv_entry ([.ref (ad 0), .int 0]) (n := 4) (Nat.le_of_ble_eq_true rfl)
  rw [lg_entry_eq]
  generalize (lg_sl ([.ref (ad 0), .int 0]) ++ List.replicate (4 - (lg_sl ([.ref (ad 0), .int 0])).length) Slot.unset).toArray = ls at hl ⊢
  have hl : lv_has ls 4 [(0, .ref (ad 0)), (1, .int 0)] := hl
  refine lv_aload_n hx hb dX9_dip_0 rfl (lv_at hl 0 rfl) ?_
  refine z_gr (D := (dC, dI)) (cl := vwCl) (C := RX9) (T := TX9) (N := 24) (ci := 9) (k := 8) hx hb hts hinX9 hown hK hH (i := 0) yk_0 (by decide) rfl (by decide) rfl yr_8 (hts (.fieldLink RX9 25 "SteamfieldModel$Field" "pond" "[I") (by decide +kernel)) (fun _ h9 => h9) dX9_dip_1 ?_
  refine lv_iconst (v := 0) hx hb dX9_dip_4 (by decide) ?_
  refine z_al (t0 := 0) (D := (dC, dI)) (cl := vwCl) (tys := yt ca) hx hb hK hH (i := 34) yk_34 rfl (show vp_in 0 6 from zx (n := 0) rfl (by decide) (by decide)) dX9_dip_5 ?_
  refine y_num (b := 0) rfl ?_
  refine lv_istore_n (lv' := [(2, .int 0), (0, .ref (ad 0)), (1, .int 0)]) hx hb dX9_dip_6 rfl hl (by decide) rfl (fun ls hl => ?_)
  refine lv_iconst (v := 0) hx hb dX9_dip_7 (by decide) ?_
  refine lv_istore_n (lv' := [(3, .int 0), (2, .int 0), (0, .ref (ad 0)), (1, .int 0)]) hx hb dX9_dip_8 rfl hl (by decide) rfl (fun ls hl => ?_)
  refine lv_iload_n hx hb dX9_dip_9 rfl (lv_at hl 0 rfl) ?_
  refine lv_iconst (v := 4) hx hb dX9_dip_10 (by decide) ?_
  refine lv_icmp_ge (tgt := 48) hx hb dX9_dip_11 (by decide) (fun c9 => absurd c9 (by decide)) (fun _ => ?_)
  refine lv_aload_n hx hb dX9_dip_14 rfl (lv_at hl 2 rfl) ?_
  refine z_gr (D := (dC, dI)) (cl := vwCl) (C := RX9) (T := TX9) (N := 24) (ci := 9) (k := 23) hx hb hts hinX9 hown hK hH (i := 0) yk_0 (by decide) rfl (by decide) rfl yr_23 (hts (.fieldLink RX9 52 "SteamfieldModel$Field" "taken" "[I") (by decide +kernel)) (fun _ h9 => h9) dX9_dip_15 ?_
  refine lv_iload_n hx hb dX9_dip_18 rfl (lv_at hl 0 rfl) ?_
  refine lv_iload_n hx hb dX9_dip_19 rfl (lv_at hl 3 rfl) ?_
  refine lv_if_ne (tgt := 27) hx hb dX9_dip_20 (by decide) (fun c9 => absurd c9 (by decide)) (fun _ => ?_)
  refine lv_iconst (v := 0) hx hb dX9_dip_23 (by decide) ?_
  refine lv_goto (tgt := 41) hx hb dX9_dip_24 (by decide) ?_
  refine zp_as (t0 := 0) (D := (dC, dI)) (cl := vwCl) (tys := yt ca) hx hb hK hH hI hS (fun _ h => h) (i := 40) yk_40 rfl (show vp_in 0 6 from zx (n := 0) rfl (by decide) (by decide)) dX9_dip_41 (fun H locs hH oq hS => ?_)
  rw [show (0 : Int32).toNatClampNeg = 0 from rfl] at hH
  rw [zu_same (show (yM n) 40 0 = 0 from rfl)] at hH
  refine lv_iinc (v := 1) (lv' := [(3, .int 1), (2, .int 0), (0, .ref (ad 0)), (1, .int 0)]) hx hb dX9_dip_42 hl (k := 0) rfl (by decide) (by decide) rfl (fun ls hl => ?_)
  refine lv_goto (tgt := 9) hx hb dX9_dip_45 (by decide) ?_
  refine lv_iload_n hx hb dX9_dip_9 rfl (lv_at hl 0 rfl) ?_
  refine lv_iconst (v := 4) hx hb dX9_dip_10 (by decide) ?_
  refine lv_icmp_ge (tgt := 48) hx hb dX9_dip_11 (by decide) (fun c9 => absurd c9 (by decide)) (fun _ => ?_)
  refine lv_aload_n hx hb dX9_dip_14 rfl (lv_at hl 2 rfl) ?_
  refine z_gr (D := (dC, dI)) (cl := vwCl) (C := RX9) (T := TX9) (N := 24) (ci := 9) (k := 23) hx hb hts hinX9 hown hK hH (i := 0) yk_0 (by decide) rfl (by decide) rfl yr_23 (hts (.fieldLink RX9 52 "SteamfieldModel$Field" "taken" "[I") (by decide +kernel)) (fun _ h9 => h9) dX9_dip_15 ?_
  refine lv_iload_n hx hb dX9_dip_18 rfl (lv_at hl 0 rfl) ?_
  refine lv_iload_n hx hb dX9_dip_19 rfl (lv_at hl 3 rfl) ?_
  refine lv_if_ne (tgt := 27) hx hb dX9_dip_20 (by decide) (fun c9 => absurd c9 (by decide)) (fun _ => ?_)
  refine lv_iconst (v := 0) hx hb dX9_dip_23 (by decide) ?_
  refine lv_goto (tgt := 41) hx hb dX9_dip_24 (by decide) ?_
  refine zp_as (t0 := 0) (D := (dC, dI)) (cl := vwCl) (tys := yt ca) hx hb hK hH hI hS (fun _ h => h) (i := 40) yk_40 rfl (show vp_in 1 6 from zx (n := 1) rfl (by decide) (by decide)) dX9_dip_41 (fun H locs hH oq hS => ?_)
  rw [show (1 : Int32).toNatClampNeg = 1 from rfl] at hH
  rw [zu_same (show (yM n) 40 1 = 0 from rfl)] at hH
  refine lv_iinc (v := 2) (lv' := [(3, .int 2), (2, .int 0), (0, .ref (ad 0)), (1, .int 0)]) hx hb dX9_dip_42 hl (k := 0) rfl (by decide) (by decide) rfl (fun ls hl => ?_)
  refine lv_goto (tgt := 9) hx hb dX9_dip_45 (by decide) ?_
  refine lv_iload_n hx hb dX9_dip_9 rfl (lv_at hl 0 rfl) ?_
  refine lv_iconst (v := 4) hx hb dX9_dip_10 (by decide) ?_
  refine lv_icmp_ge (tgt := 48) hx hb dX9_dip_11 (by decide) (fun c9 => absurd c9 (by decide)) (fun _ => ?_)
  refine lv_aload_n hx hb dX9_dip_14 rfl (lv_at hl 2 rfl) ?_
  refine z_gr (D := (dC, dI)) (cl := vwCl) (C := RX9) (T := TX9) (N := 24) (ci := 9) (k := 23) hx hb hts hinX9 hown hK hH (i := 0) yk_0 (by decide) rfl (by decide) rfl yr_23 (hts (.fieldLink RX9 52 "SteamfieldModel$Field" "taken" "[I") (by decide +kernel)) (fun _ h9 => h9) dX9_dip_15 ?_
  refine lv_iload_n hx hb dX9_dip_18 rfl (lv_at hl 0 rfl) ?_
  refine lv_iload_n hx hb dX9_dip_19 rfl (lv_at hl 3 rfl) ?_
  refine lv_if_ne (tgt := 27) hx hb dX9_dip_20 (by decide) (fun c9 => absurd c9 (by decide)) (fun _ => ?_)
  refine lv_iconst (v := 0) hx hb dX9_dip_23 (by decide) ?_
  refine lv_goto (tgt := 41) hx hb dX9_dip_24 (by decide) ?_
  refine zp_as (t0 := 0) (D := (dC, dI)) (cl := vwCl) (tys := yt ca) hx hb hK hH hI hS (fun _ h => h) (i := 40) yk_40 rfl (show vp_in 2 6 from zx (n := 2) rfl (by decide) (by decide)) dX9_dip_41 (fun H locs hH oq hS => ?_)
  rw [show (2 : Int32).toNatClampNeg = 2 from rfl] at hH
  rw [zu_same (show (yM n) 40 2 = 0 from rfl)] at hH
  refine lv_iinc (v := 3) (lv' := [(3, .int 3), (2, .int 0), (0, .ref (ad 0)), (1, .int 0)]) hx hb dX9_dip_42 hl (k := 0) rfl (by decide) (by decide) rfl (fun ls hl => ?_)
  refine lv_goto (tgt := 9) hx hb dX9_dip_45 (by decide) ?_
  refine lv_iload_n hx hb dX9_dip_9 rfl (lv_at hl 0 rfl) ?_
  refine lv_iconst (v := 4) hx hb dX9_dip_10 (by decide) ?_
  refine lv_icmp_ge (tgt := 48) hx hb dX9_dip_11 (by decide) (fun c9 => absurd c9 (by decide)) (fun _ => ?_)
  refine lv_aload_n hx hb dX9_dip_14 rfl (lv_at hl 2 rfl) ?_
  refine z_gr (D := (dC, dI)) (cl := vwCl) (C := RX9) (T := TX9) (N := 24) (ci := 9) (k := 23) hx hb hts hinX9 hown hK hH (i := 0) yk_0 (by decide) rfl (by decide) rfl yr_23 (hts (.fieldLink RX9 52 "SteamfieldModel$Field" "taken" "[I") (by decide +kernel)) (fun _ h9 => h9) dX9_dip_15 ?_
  refine lv_iload_n hx hb dX9_dip_18 rfl (lv_at hl 0 rfl) ?_
  refine lv_iload_n hx hb dX9_dip_19 rfl (lv_at hl 3 rfl) ?_
  refine lv_if_ne (tgt := 27) hx hb dX9_dip_20 (by decide) (fun c9 => absurd c9 (by decide)) (fun _ => ?_)
  refine lv_iconst (v := 0) hx hb dX9_dip_23 (by decide) ?_
  refine lv_goto (tgt := 41) hx hb dX9_dip_24 (by decide) ?_
  refine zp_as (t0 := 0) (D := (dC, dI)) (cl := vwCl) (tys := yt ca) hx hb hK hH hI hS (fun _ h => h) (i := 40) yk_40 rfl (show vp_in 3 6 from zx (n := 3) rfl (by decide) (by decide)) dX9_dip_41 (fun H locs hH oq hS => ?_)
  rw [show (3 : Int32).toNatClampNeg = 3 from rfl] at hH
  rw [zu_same (show (yM n) 40 3 = 0 from rfl)] at hH
  refine lv_iinc (v := 4) (lv' := [(3, .int 4), (2, .int 0), (0, .ref (ad 0)), (1, .int 0)]) hx hb dX9_dip_42 hl (k := 0) rfl (by decide) (by decide) rfl (fun ls hl => ?_)
  refine lv_goto (tgt := 9) hx hb dX9_dip_45 (by decide) ?_
  refine lv_iload_n hx hb dX9_dip_9 rfl (lv_at hl 0 rfl) ?_
  refine lv_iconst (v := 4) hx hb dX9_dip_10 (by decide) ?_
  refine lv_icmp_ge (tgt := 48) hx hb dX9_dip_11 (by decide) (fun _ => ?_) (fun c9 => absurd c9 (by decide))
  refine lv_iconst (v := 0) hx hb dX9_dip_48 (by decide) ?_
  refine lv_istore_n (lv' := [(3, .int 0), (2, .int 0), (0, .ref (ad 0)), (1, .int 0)]) hx hb dX9_dip_49 rfl hl (by decide) rfl (fun ls hl => ?_)
  refine lv_iload_n hx hb dX9_dip_50 rfl (lv_at hl 0 rfl) ?_
  refine lv_iconst (v := 4) hx hb dX9_dip_51 (by decide) ?_
  refine lv_icmp_ge (tgt := 76) hx hb dX9_dip_52 (by decide) (fun c9 => absurd c9 (by decide)) (fun _ => ?_)
  refine lv_aload_n hx hb dX9_dip_55 rfl (lv_at hl 2 rfl) ?_
  refine z_gr (D := (dC, dI)) (cl := vwCl) (C := RX9) (T := TX9) (N := 24) (ci := 9) (k := 8) hx hb hts hinX9 hown hK hH (i := 0) yk_0 (by decide) rfl (by decide) rfl yr_8 (hts (.fieldLink RX9 25 "SteamfieldModel$Field" "pond" "[I") (by decide +kernel)) (fun _ h9 => h9) dX9_dip_56 ?_
  refine lv_iload_n hx hb dX9_dip_59 rfl (lv_at hl 0 rfl) ?_
  refine lv_dup2_11 hx hb dX9_dip_60 rfl rfl ?_
  refine z_al (t0 := 0) (D := (dC, dI)) (cl := vwCl) (tys := yt ca) hx hb hK hH (i := 34) yk_34 rfl (show vp_in 0 6 from zx (n := 0) rfl (by decide) (by decide)) dX9_dip_61 ?_
  refine y_num (b := 0) rfl ?_
  refine lv_aload_n hx hb dX9_dip_62 rfl (lv_at hl 2 rfl) ?_
  refine z_gr (D := (dC, dI)) (cl := vwCl) (C := RX9) (T := TX9) (N := 24) (ci := 9) (k := 23) hx hb hts hinX9 hown hK hH (i := 0) yk_0 (by decide) rfl (by decide) rfl yr_23 (hts (.fieldLink RX9 52 "SteamfieldModel$Field" "taken" "[I") (by decide +kernel)) (fun _ h9 => h9) dX9_dip_63 ?_
  refine lv_iload_n hx hb dX9_dip_66 rfl (lv_at hl 0 rfl) ?_
  refine z_al (t0 := 0) (D := (dC, dI)) (cl := vwCl) (tys := yt ca) hx hb hK hH (i := 40) yk_40 rfl (show vp_in 0 6 from zx (n := 0) rfl (by decide) (by decide)) dX9_dip_67 ?_
  refine y_num (b := 0) rfl ?_
  refine lv_isub hx hb dX9_dip_68 ?_
  refine y_num (b := 0) (by decide) ?_
  refine zp_as (t0 := 0) (D := (dC, dI)) (cl := vwCl) (tys := yt ca) hx hb hK hH hI hS (fun _ h => h) (i := 34) yk_34 rfl (show vp_in 0 6 from zx (n := 0) rfl (by decide) (by decide)) dX9_dip_69 (fun H locs hH oq hS => ?_)
  rw [show (0 : Int32).toNatClampNeg = 0 from rfl] at hH
  rw [zu_same (show (yM n) 34 0 = 0 from rfl)] at hH
  refine lv_iinc (v := 1) (lv' := [(3, .int 1), (2, .int 0), (0, .ref (ad 0)), (1, .int 0)]) hx hb dX9_dip_70 hl (k := 0) rfl (by decide) (by decide) rfl (fun ls hl => ?_)
  refine lv_goto (tgt := 50) hx hb dX9_dip_73 (by decide) ?_
  refine lv_iload_n hx hb dX9_dip_50 rfl (lv_at hl 0 rfl) ?_
  refine lv_iconst (v := 4) hx hb dX9_dip_51 (by decide) ?_
  refine lv_icmp_ge (tgt := 76) hx hb dX9_dip_52 (by decide) (fun c9 => absurd c9 (by decide)) (fun _ => ?_)
  refine lv_aload_n hx hb dX9_dip_55 rfl (lv_at hl 2 rfl) ?_
  refine z_gr (D := (dC, dI)) (cl := vwCl) (C := RX9) (T := TX9) (N := 24) (ci := 9) (k := 8) hx hb hts hinX9 hown hK hH (i := 0) yk_0 (by decide) rfl (by decide) rfl yr_8 (hts (.fieldLink RX9 25 "SteamfieldModel$Field" "pond" "[I") (by decide +kernel)) (fun _ h9 => h9) dX9_dip_56 ?_
  refine lv_iload_n hx hb dX9_dip_59 rfl (lv_at hl 0 rfl) ?_
  refine lv_dup2_11 hx hb dX9_dip_60 rfl rfl ?_
  refine z_al (t0 := 0) (D := (dC, dI)) (cl := vwCl) (tys := yt ca) hx hb hK hH (i := 34) yk_34 rfl (show vp_in 1 6 from zx (n := 1) rfl (by decide) (by decide)) dX9_dip_61 ?_
  refine y_num (b := 0) rfl ?_
  refine lv_aload_n hx hb dX9_dip_62 rfl (lv_at hl 2 rfl) ?_
  refine z_gr (D := (dC, dI)) (cl := vwCl) (C := RX9) (T := TX9) (N := 24) (ci := 9) (k := 23) hx hb hts hinX9 hown hK hH (i := 0) yk_0 (by decide) rfl (by decide) rfl yr_23 (hts (.fieldLink RX9 52 "SteamfieldModel$Field" "taken" "[I") (by decide +kernel)) (fun _ h9 => h9) dX9_dip_63 ?_
  refine lv_iload_n hx hb dX9_dip_66 rfl (lv_at hl 0 rfl) ?_
  refine z_al (t0 := 0) (D := (dC, dI)) (cl := vwCl) (tys := yt ca) hx hb hK hH (i := 40) yk_40 rfl (show vp_in 1 6 from zx (n := 1) rfl (by decide) (by decide)) dX9_dip_67 ?_
  refine y_num (b := 0) rfl ?_
  refine lv_isub hx hb dX9_dip_68 ?_
  refine y_num (b := 0) (by decide) ?_
  refine zp_as (t0 := 0) (D := (dC, dI)) (cl := vwCl) (tys := yt ca) hx hb hK hH hI hS (fun _ h => h) (i := 34) yk_34 rfl (show vp_in 1 6 from zx (n := 1) rfl (by decide) (by decide)) dX9_dip_69 (fun H locs hH oq hS => ?_)
  rw [show (1 : Int32).toNatClampNeg = 1 from rfl] at hH
  rw [zu_same (show (yM n) 34 1 = 0 from rfl)] at hH
  refine lv_iinc (v := 2) (lv' := [(3, .int 2), (2, .int 0), (0, .ref (ad 0)), (1, .int 0)]) hx hb dX9_dip_70 hl (k := 0) rfl (by decide) (by decide) rfl (fun ls hl => ?_)
  refine lv_goto (tgt := 50) hx hb dX9_dip_73 (by decide) ?_
  refine lv_iload_n hx hb dX9_dip_50 rfl (lv_at hl 0 rfl) ?_
  refine lv_iconst (v := 4) hx hb dX9_dip_51 (by decide) ?_
  refine lv_icmp_ge (tgt := 76) hx hb dX9_dip_52 (by decide) (fun c9 => absurd c9 (by decide)) (fun _ => ?_)
  refine lv_aload_n hx hb dX9_dip_55 rfl (lv_at hl 2 rfl) ?_
  refine z_gr (D := (dC, dI)) (cl := vwCl) (C := RX9) (T := TX9) (N := 24) (ci := 9) (k := 8) hx hb hts hinX9 hown hK hH (i := 0) yk_0 (by decide) rfl (by decide) rfl yr_8 (hts (.fieldLink RX9 25 "SteamfieldModel$Field" "pond" "[I") (by decide +kernel)) (fun _ h9 => h9) dX9_dip_56 ?_
  refine lv_iload_n hx hb dX9_dip_59 rfl (lv_at hl 0 rfl) ?_
  refine lv_dup2_11 hx hb dX9_dip_60 rfl rfl ?_
  refine z_al (t0 := 0) (D := (dC, dI)) (cl := vwCl) (tys := yt ca) hx hb hK hH (i := 34) yk_34 rfl (show vp_in 2 6 from zx (n := 2) rfl (by decide) (by decide)) dX9_dip_61 ?_
  refine y_num (b := 0) rfl ?_
  refine lv_aload_n hx hb dX9_dip_62 rfl (lv_at hl 2 rfl) ?_
  refine z_gr (D := (dC, dI)) (cl := vwCl) (C := RX9) (T := TX9) (N := 24) (ci := 9) (k := 23) hx hb hts hinX9 hown hK hH (i := 0) yk_0 (by decide) rfl (by decide) rfl yr_23 (hts (.fieldLink RX9 52 "SteamfieldModel$Field" "taken" "[I") (by decide +kernel)) (fun _ h9 => h9) dX9_dip_63 ?_
  refine lv_iload_n hx hb dX9_dip_66 rfl (lv_at hl 0 rfl) ?_
  refine z_al (t0 := 0) (D := (dC, dI)) (cl := vwCl) (tys := yt ca) hx hb hK hH (i := 40) yk_40 rfl (show vp_in 2 6 from zx (n := 2) rfl (by decide) (by decide)) dX9_dip_67 ?_
  refine y_num (b := 0) rfl ?_
  refine lv_isub hx hb dX9_dip_68 ?_
  refine y_num (b := 0) (by decide) ?_
  refine zp_as (t0 := 0) (D := (dC, dI)) (cl := vwCl) (tys := yt ca) hx hb hK hH hI hS (fun _ h => h) (i := 34) yk_34 rfl (show vp_in 2 6 from zx (n := 2) rfl (by decide) (by decide)) dX9_dip_69 (fun H locs hH oq hS => ?_)
  rw [show (2 : Int32).toNatClampNeg = 2 from rfl] at hH
  rw [zu_same (show (yM n) 34 2 = 0 from rfl)] at hH
  refine lv_iinc (v := 3) (lv' := [(3, .int 3), (2, .int 0), (0, .ref (ad 0)), (1, .int 0)]) hx hb dX9_dip_70 hl (k := 0) rfl (by decide) (by decide) rfl (fun ls hl => ?_)
  refine lv_goto (tgt := 50) hx hb dX9_dip_73 (by decide) ?_
  refine lv_iload_n hx hb dX9_dip_50 rfl (lv_at hl 0 rfl) ?_
  refine lv_iconst (v := 4) hx hb dX9_dip_51 (by decide) ?_
  refine lv_icmp_ge (tgt := 76) hx hb dX9_dip_52 (by decide) (fun c9 => absurd c9 (by decide)) (fun _ => ?_)
  refine lv_aload_n hx hb dX9_dip_55 rfl (lv_at hl 2 rfl) ?_
  refine z_gr (D := (dC, dI)) (cl := vwCl) (C := RX9) (T := TX9) (N := 24) (ci := 9) (k := 8) hx hb hts hinX9 hown hK hH (i := 0) yk_0 (by decide) rfl (by decide) rfl yr_8 (hts (.fieldLink RX9 25 "SteamfieldModel$Field" "pond" "[I") (by decide +kernel)) (fun _ h9 => h9) dX9_dip_56 ?_
  refine lv_iload_n hx hb dX9_dip_59 rfl (lv_at hl 0 rfl) ?_
  refine lv_dup2_11 hx hb dX9_dip_60 rfl rfl ?_
  refine z_al (t0 := 0) (D := (dC, dI)) (cl := vwCl) (tys := yt ca) hx hb hK hH (i := 34) yk_34 rfl (show vp_in 3 6 from zx (n := 3) rfl (by decide) (by decide)) dX9_dip_61 ?_
  refine y_num (b := 0) rfl ?_
  refine lv_aload_n hx hb dX9_dip_62 rfl (lv_at hl 2 rfl) ?_
  refine z_gr (D := (dC, dI)) (cl := vwCl) (C := RX9) (T := TX9) (N := 24) (ci := 9) (k := 23) hx hb hts hinX9 hown hK hH (i := 0) yk_0 (by decide) rfl (by decide) rfl yr_23 (hts (.fieldLink RX9 52 "SteamfieldModel$Field" "taken" "[I") (by decide +kernel)) (fun _ h9 => h9) dX9_dip_63 ?_
  refine lv_iload_n hx hb dX9_dip_66 rfl (lv_at hl 0 rfl) ?_
  refine z_al (t0 := 0) (D := (dC, dI)) (cl := vwCl) (tys := yt ca) hx hb hK hH (i := 40) yk_40 rfl (show vp_in 3 6 from zx (n := 3) rfl (by decide) (by decide)) dX9_dip_67 ?_
  refine y_num (b := 0) rfl ?_
  refine lv_isub hx hb dX9_dip_68 ?_
  refine y_num (b := 0) (by decide) ?_
  refine zp_as (t0 := 0) (D := (dC, dI)) (cl := vwCl) (tys := yt ca) hx hb hK hH hI hS (fun _ h => h) (i := 34) yk_34 rfl (show vp_in 3 6 from zx (n := 3) rfl (by decide) (by decide)) dX9_dip_69 (fun H locs hH oq hS => ?_)
  rw [show (3 : Int32).toNatClampNeg = 3 from rfl] at hH
  rw [zu_same (show (yM n) 34 3 = 0 from rfl)] at hH
  refine lv_iinc (v := 4) (lv' := [(3, .int 4), (2, .int 0), (0, .ref (ad 0)), (1, .int 0)]) hx hb dX9_dip_70 hl (k := 0) rfl (by decide) (by decide) rfl (fun ls hl => ?_)
  refine lv_goto (tgt := 50) hx hb dX9_dip_73 (by decide) ?_
  refine lv_iload_n hx hb dX9_dip_50 rfl (lv_at hl 0 rfl) ?_
  refine lv_iconst (v := 4) hx hb dX9_dip_51 (by decide) ?_
  refine lv_icmp_ge (tgt := 76) hx hb dX9_dip_52 (by decide) (fun _ => ?_) (fun c9 => absurd c9 (by decide))
  refine W.widen (k := 0) (n := 0) (Nat.le_of_ble_eq_true rfl) (Nat.le_of_ble_eq_true rfl) ?_
  exact W.vret hx hb hr (fun t ht hW => ⟨⟨(), rfl, trivial, z_to (B := (fun H => yW dC dI ca ad (yM n) H)) ht hH⟩, hS.F ht⟩) hS.2.2 dX9_dip_76
set_option maxHeartbeats 4000000 in
set_option maxRecDepth 100000 in
theorem m_X9_pay (l : Launch) (dC : Nat → ClassId) (dI : Nat → Nat → Nat) (ca : Nat → ClassId) (ad : Nat → Nat) (hI : z_I yd ad) (n : Nat) (hn : n < 1000) : Met l yX9_pay wsX9_pay ({ frames := 1, cells := 0, slots := 0, locals := 23 }) (z_Py (dC, dI) vwCl (yt ca) zw_nest [.ref (ad 0)] (fun H => yW dC dI ca ad (yM n) H)) (z_Qv (fun H => yW dC dI ca ad (yM n) H) (z_A yd ad)) 0 0 (z_A yd ad) := by
  refine Met.ofW (cc := cX9_pay) (maxL := 6) (ret := none) (by decide) rfl ?_
  intro p e s m args below meth c s₁ B9 hml hv
  obtain ⟨rfl, hH, hK, hN, hX⟩ := hv
  have hx := B9.exec
  have hb := B9.bytes
  have hr := B9.returns
  have hts := atoms_spec (ws := wsX9_pay) B9.pre
  have hown : s.vm.findClass RX9 = some m.cls := findClass_of_methodNamed B9.named
  have hlocks := B9.notSynchronized
  have hS : va_S (z_A yd ad) s.heap s.heap [] := va_S.rf
  have hinX9 : ∀ w ∈ u_ws RX9 TX9 24, w ∈ wsX9_pay := by decide +kernel
  have hl := lv_entry ([.ref (ad 0)]) (n := 6) (Nat.le_of_ble_eq_true rfl)
  rw [lg_entry_eq]
  generalize (lg_sl ([.ref (ad 0)]) ++ List.replicate (6 - (lg_sl ([.ref (ad 0)])).length) Slot.unset).toArray = ls at hl ⊢
  have hl : lv_has ls 6 [(0, .ref (ad 0))] := hl
  refine lv_iconst (v := 3) hx hb dX9_pay_0 (by decide) ?_
  refine lv_aload_n hx hb dX9_pay_1 rfl (lv_at hl 0 rfl) ?_
  refine z_gi (D := (dC, dI)) (cl := vwCl) (C := RX9) (T := TX9) (N := 24) (ci := 9) (k := 18) hx hb hts hinX9 hown hK hH (i := 0) yk_0 (by decide) rfl (by decide) rfl (hts (.fieldLink RX9 142 "SteamfieldModel$Field" "power" "I") (by decide +kernel)) (fun _ h9 => h9) dX9_pay_2 ?_
  refine y_num (b := 0) rfl ?_
  refine lv_imul hx hb dX9_pay_5 ?_
  refine y_num (b := 0) (by decide) ?_
  refine lv_aload_n hx hb dX9_pay_6 rfl (lv_at hl 0 rfl) ?_
  refine z_gi (D := (dC, dI)) (cl := vwCl) (C := RX9) (T := TX9) (N := 24) (ci := 9) (k := 20) hx hb hts hinX9 hown hK hH (i := 0) yk_0 (by decide) rfl (by decide) rfl (hts (.fieldLink RX9 112 "SteamfieldModel$Field" "warmed" "I") (by decide +kernel)) (fun _ h9 => h9) dX9_pay_7 ?_
  refine y_num (b := 0) rfl ?_
  refine lv_bipush (v := 100) hx hb dX9_pay_10 (by decide) ?_
  refine lv_idiv hx hb dX9_pay_12 (by decide) ?_
  refine y_num (b := 0) (by decide) ?_
  refine lv_iadd hx hb dX9_pay_13 ?_
  refine y_num (b := 0) (by decide) ?_
  refine lv_istore_n (lv' := [(1, .int 0), (0, .ref (ad 0))]) hx hb dX9_pay_14 rfl hl (by decide) rfl (fun ls hl => ?_)
  refine lv_aload_n hx hb dX9_pay_15 rfl (lv_at hl 1 rfl) ?_
  refine lv_iconst (v := 0) hx hb dX9_pay_16 (by decide) ?_
  refine y_cVi (D := (dC, dI)) (cl := vwCl) (tys := yt ca) (nw := zw_nest) (C := RX9) (As := [.int 0]) (rest := []) ⟨hx, hb, hml, hown, hts⟩ (m_X9_share l dC dI ca ad hI n hn 0 ) (cwV 1 hts gX9_pay_X9_share rfl rfl rfl (by decide +kernel) ⟨Nat.le_of_ble_eq_true rfl, Nat.le_of_ble_eq_true rfl⟩) (z_recv (ci := 9) (i := 0) hK hH yk_0 (by decide) rfl) hH hK hN hX zw_nest_ok rfl hl.1 rfl (Nat.le_of_ble_eq_true rfl) dX9_pay_17 ⟨Nat.le_of_ble_eq_true rfl, Nat.le_of_ble_eq_true rfl⟩ hS (fun _ h => h) (fun H locs hB1 oq1 hz1 hS => ?_)
  have hH : z_H (dC, dI) vwCl yf ca yd ad (yM n) H := hB1
  refine lv_aload_n hx hb dX9_pay_20 rfl (lv_at hl 1 rfl) ?_
  refine lv_iconst (v := 1) hx hb dX9_pay_21 (by decide) ?_
  refine y_cVi (D := (dC, dI)) (cl := vwCl) (tys := yt ca) (nw := zw_nest) (C := RX9) (As := [.int 1]) (rest := [.int 0]) ⟨hx, hb, hml, hown, hts⟩ (m_X9_share l dC dI ca ad hI n hn 1 ) (cwV 1 hts gX9_pay_X9_share rfl rfl rfl (by decide +kernel) ⟨Nat.le_of_ble_eq_true rfl, Nat.le_of_ble_eq_true rfl⟩) (z_recv (ci := 9) (i := 0) hK hH yk_0 (by decide) rfl) hH hK hN hX zw_nest_ok rfl hl.1 rfl (Nat.le_of_ble_eq_true rfl) dX9_pay_22 ⟨Nat.le_of_ble_eq_true rfl, Nat.le_of_ble_eq_true rfl⟩ hS (fun _ h => h) (fun H locs hB1 oq1 hz1 hS => ?_)
  have hH : z_H (dC, dI) vwCl yf ca yd ad (yM n) H := hB1
  refine lv_iadd hx hb dX9_pay_25 ?_
  refine y_num (b := 0) (by decide) ?_
  refine lv_istore_n (lv' := [(2, .int 0), (1, .int 0), (0, .ref (ad 0))]) hx hb dX9_pay_26 rfl hl (by decide) rfl (fun ls hl => ?_)
  refine lv_iload_n hx hb dX9_pay_27 rfl (lv_at hl 0 rfl) ?_
  refine lv_if_ne (tgt := 35) hx hb dX9_pay_28 (by decide) (fun c9 => absurd c9 (by decide)) (fun _ => ?_)
  refine lv_iconst (v := 0) hx hb dX9_pay_31 (by decide) ?_
  refine lv_goto (tgt := 44) hx hb dX9_pay_32 (by decide) ?_
  refine lv_istore_n (lv' := [(3, .int 0), (2, .int 0), (1, .int 0), (0, .ref (ad 0))]) hx hb dX9_pay_44 rfl hl (by decide) rfl (fun ls hl => ?_)
  refine lv_aload_n hx hb dX9_pay_45 rfl (lv_at hl 3 rfl) ?_
  refine z_gr (D := (dC, dI)) (cl := vwCl) (C := RX9) (T := TX9) (N := 24) (ci := 9) (k := 12) hx hb hts hinX9 hown hK hH (i := 0) yk_0 (by decide) rfl (by decide) rfl yr_12 (hts (.fieldLink RX9 38 "SteamfieldModel$Field" "coins" "[I") (by decide +kernel)) (fun _ h9 => h9) dX9_pay_46 ?_
  refine lv_iconst (v := 0) hx hb dX9_pay_49 (by decide) ?_
  refine lv_dup2_11 hx hb dX9_pay_50 rfl rfl ?_
  refine z_al (t0 := 0) (D := (dC, dI)) (cl := vwCl) (tys := yt ca) hx hb hK hH (i := 38) yk_38 rfl (show vp_in 0 2 from zx (n := 0) rfl (by decide) (by decide)) dX9_pay_51 ?_
  refine y_num (b := 100) rfl ?_
  refine lv_iload_n hx hb dX9_pay_52 rfl (lv_at hl 0 rfl) ?_
  refine lv_iadd hx hb dX9_pay_53 ?_
  refine y_num (b := 100) (by decide) ?_
  refine zp_as (t0 := 0) (D := (dC, dI)) (cl := vwCl) (tys := yt ca) hx hb hK hH hI hS (fun _ h => h) (i := 38) yk_38 rfl (show vp_in 0 2 from zx (n := 0) rfl (by decide) (by decide)) dX9_pay_54 (fun H locs hH oq hS => ?_)
  rw [show (0 : Int32).toNatClampNeg = 0 from rfl] at hH
  rw [zu_same (show (yM n) 38 0 = 100 from rfl)] at hH
  refine lv_aload_n hx hb dX9_pay_55 rfl (lv_at hl 3 rfl) ?_
  refine z_gr (D := (dC, dI)) (cl := vwCl) (C := RX9) (T := TX9) (N := 24) (ci := 9) (k := 12) hx hb hts hinX9 hown hK hH (i := 0) yk_0 (by decide) rfl (by decide) rfl yr_12 (hts (.fieldLink RX9 38 "SteamfieldModel$Field" "coins" "[I") (by decide +kernel)) (fun _ h9 => h9) dX9_pay_56 ?_
  refine lv_iconst (v := 1) hx hb dX9_pay_59 (by decide) ?_
  refine lv_dup2_11 hx hb dX9_pay_60 rfl rfl ?_
  refine z_al (t0 := 0) (D := (dC, dI)) (cl := vwCl) (tys := yt ca) hx hb hK hH (i := 38) yk_38 rfl (show vp_in 1 2 from zx (n := 1) rfl (by decide) (by decide)) dX9_pay_61 ?_
  refine y_num (b := 100) rfl ?_
  refine lv_iload_n hx hb dX9_pay_62 rfl (lv_at hl 2 rfl) ?_
  refine lv_iload_n hx hb dX9_pay_63 rfl (lv_at hl 0 rfl) ?_
  refine lv_isub hx hb dX9_pay_64 ?_
  refine y_num (b := 0) (by decide) ?_
  refine lv_iadd hx hb dX9_pay_65 ?_
  refine y_num (b := 100) (by decide) ?_
  refine zp_as (t0 := 0) (D := (dC, dI)) (cl := vwCl) (tys := yt ca) hx hb hK hH hI hS (fun _ h => h) (i := 38) yk_38 rfl (show vp_in 1 2 from zx (n := 1) rfl (by decide) (by decide)) dX9_pay_66 (fun H locs hH oq hS => ?_)
  rw [show (1 : Int32).toNatClampNeg = 1 from rfl] at hH
  rw [zu_same (show (yM n) 38 1 = 100 from rfl)] at hH
  refine lv_iconst (v := 0) hx hb dX9_pay_67 (by decide) ?_
  refine lv_istore (lv' := [(4, .int 0), (3, .int 0), (2, .int 0), (1, .int 0), (0, .ref (ad 0))]) hx hb dX9_pay_68 hl (by decide) rfl (fun ls hl => ?_)
  refine lv_iload hx hb dX9_pay_70 (lv_at hl 0 rfl) ?_
  refine lv_aload_n hx hb dX9_pay_72 rfl (lv_at hl 4 rfl) ?_
  refine z_gi (D := (dC, dI)) (cl := vwCl) (C := RX9) (T := TX9) (N := 24) (ci := 9) (k := 7) hx hb hts hinX9 hown hK hH (i := 0) yk_0 (by decide) rfl (by decide) rfl (hts (.fieldLink RX9 69 "SteamfieldModel$Field" "manySprings" "I") (by decide +kernel)) (fun _ h9 => h9) dX9_pay_73 ?_
  refine y_num (b := 0) rfl ?_
  refine lv_icmp_ge (tgt := 145) hx hb dX9_pay_76 (by decide) (fun _ => ?_) (fun c9 => absurd c9 (by decide))
  refine W.widen (k := 0) (n := 0) (Nat.le_of_ble_eq_true rfl) (Nat.le_of_ble_eq_true rfl) ?_
  exact W.vret hx hb hr (fun t ht hW => ⟨⟨(), rfl, trivial, z_to (B := (fun H => yW dC dI ca ad (yM n) H)) ht hH⟩, hS.F ht⟩) hS.2.2 dX9_pay_145
set_option maxHeartbeats 4000000 in
set_option maxRecDepth 100000 in
theorem m_X9_step (l : Launch) (dC : Nat → ClassId) (dI : Nat → Nat → Nat) (ca : Nat → ClassId) (ad : Nat → Nat) (hI : z_I yd ad) (n : Nat) (hn : n < 1000) (hn2 : n + 1 < 1000): Met l yX9_step wsX9_step ({ frames := 2, cells := 0, slots := 0, locals := 48 }) (z_Py (dC, dI) vwCl (yt ca) zw_nest [.ref (ad 0)] (fun H => yW dC dI ca ad (yM n) H)) (z_Qv (fun H => yW dC dI ca ad (yM (n + 1)) H) (z_A yd ad)) 0 0 (z_A yd ad) := by
  refine Met.ofW (cc := cX9_step) (maxL := 5) (ret := none) (by decide) rfl ?_
  intro p e s m args below meth c s₁ B9 hml hv
  obtain ⟨rfl, hH, hK, hN, hX⟩ := hv
  have hx := B9.exec
  have hb := B9.bytes
  have hr := B9.returns
  have hts := atoms_spec (ws := wsX9_step) B9.pre
  have hown : s.vm.findClass RX9 = some m.cls := findClass_of_methodNamed B9.named
  have hlocks := B9.notSynchronized
  have hS : va_S (z_A yd ad) s.heap s.heap [] := va_S.rf
  have hinX9 : ∀ w ∈ u_ws RX9 TX9 24, w ∈ wsX9_step := by decide +kernel
  have hl := lv_entry ([.ref (ad 0)]) (n := 5) (Nat.le_of_ble_eq_true rfl)
  rw [lg_entry_eq]
  generalize (lg_sl ([.ref (ad 0)]) ++ List.replicate (5 - (lg_sl ([.ref (ad 0)])).length) Slot.unset).toArray = ls at hl ⊢
  have hl : lv_has ls 5 [(0, .ref (ad 0))] := hl
  refine lv_aload_n hx hb dX9_step_0 rfl (lv_at hl 0 rfl) ?_
  refine y_cVi (D := (dC, dI)) (cl := vwCl) (tys := yt ca) (nw := zw_nest) (C := RX9) (As := []) (rest := []) ⟨hx, hb, hml, hown, hts⟩ (m_X9_light l dC dI ca ad hI n hn  ) (cwV 0 hts gX9_step_X9_light rfl rfl rfl (by decide +kernel) ⟨Nat.le_of_ble_eq_true rfl, Nat.le_of_ble_eq_true rfl⟩) (z_recv (ci := 9) (i := 0) hK hH yk_0 (by decide) rfl) hH hK hN hX zw_nest_ok rfl hl.1 rfl (Nat.le_of_ble_eq_true rfl) dX9_step_1 ⟨Nat.le_of_ble_eq_true rfl, Nat.le_of_ble_eq_true rfl⟩ hS (fun _ h => h) (fun H locs hB1 oq1 hz1 hS => ?_)
  have hH : z_H (dC, dI) vwCl yf ca yd ad (yM n) H := hB1
  refine lv_istore_n (lv' := [(1, .int 0), (0, .ref (ad 0))]) hx hb dX9_step_4 rfl hl (by decide) rfl (fun ls hl => ?_)
  refine lv_aload_n hx hb dX9_step_5 rfl (lv_at hl 1 rfl) ?_
  refine lv_dup hx hb dX9_step_6 rfl ?_
  refine z_gi (D := (dC, dI)) (cl := vwCl) (C := RX9) (T := TX9) (N := 24) (ci := 9) (k := 17) hx hb hts hinX9 hown hK hH (i := 0) yk_0 (by decide) rfl (by decide) rfl (hts (.fieldLink RX9 81 "SteamfieldModel$Field" "now" "I") (by decide +kernel)) (fun _ h9 => h9) dX9_step_7 ?_
  refine y_num (b := (nI n)) rfl ?_
  refine lv_iconst (v := 1) hx hb dX9_step_10 (by decide) ?_
  refine lv_iadd hx hb dX9_step_11 ?_
  refine zp_i (D := (dC, dI)) (cl := vwCl) (C := RX9) (T := TX9) (N := 24) (ci := 9) (k := 17) (ty := .int) hx hb hts hinX9 tyX9 tyX9_ok nmX9 hown hK hH hI hS (fun _ h => h) (i := 0) yk_0 (by decide) rfl (by decide) rfl (hts (.fieldLink RX9 81 "SteamfieldModel$Field" "now" "I") (by decide +kernel)) (fun _ h9 => h9) rfl (by decide +kernel) rfl rfl dX9_step_12 (fun H locs hH oq hS => ?_)
  rw [yM_s] at hH
  refine lv_iconst (v := 0) hx hb dX9_step_15 (by decide) ?_
  refine lv_istore_n (lv' := [(2, .int 0), (1, .int 0), (0, .ref (ad 0))]) hx hb dX9_step_16 rfl hl (by decide) rfl (fun ls hl => ?_)
  refine lv_iload_n hx hb dX9_step_17 rfl (lv_at hl 0 rfl) ?_
  refine lv_aload_n hx hb dX9_step_18 rfl (lv_at hl 2 rfl) ?_
  refine z_gi (D := (dC, dI)) (cl := vwCl) (C := RX9) (T := TX9) (N := 24) (ci := 9) (k := 5) hx hb hts hinX9 hown hK hH (i := 0) yk_0 (by decide) rfl (by decide) rfl (hts (.fieldLink RX9 63 "SteamfieldModel$Field" "manyFaces" "I") (by decide +kernel)) (fun _ h9 => h9) dX9_step_19 ?_
  refine y_num (b := 0) rfl ?_
  refine lv_icmp_ge (tgt := 41) hx hb dX9_step_22 (by decide) (fun _ => ?_) (fun c9 => absurd c9 (by decide))
  refine lv_iconst (v := 0) hx hb dX9_step_41 (by decide) ?_
  refine lv_istore_n (lv' := [(2, .int 0), (1, .int 0), (0, .ref (ad 0))]) hx hb dX9_step_42 rfl hl (by decide) rfl (fun ls hl => ?_)
  refine lv_iconst (v := 0) hx hb dX9_step_43 (by decide) ?_
  refine lv_istore_n (lv' := [(3, .int 0), (2, .int 0), (1, .int 0), (0, .ref (ad 0))]) hx hb dX9_step_44 rfl hl (by decide) rfl (fun ls hl => ?_)
  refine lv_iload_n hx hb dX9_step_45 rfl (lv_at hl 0 rfl) ?_
  refine lv_aload_n hx hb dX9_step_46 rfl (lv_at hl 3 rfl) ?_
  refine z_gi (D := (dC, dI)) (cl := vwCl) (C := RX9) (T := TX9) (N := 24) (ci := 9) (k := 6) hx hb hts hinX9 hown hK hH (i := 0) yk_0 (by decide) rfl (by decide) rfl (hts (.fieldLink RX9 66 "SteamfieldModel$Field" "manyWells" "I") (by decide +kernel)) (fun _ h9 => h9) dX9_step_47 ?_
  refine y_num (b := 0) rfl ?_
  refine lv_icmp_ge (tgt := 83) hx hb dX9_step_50 (by decide) (fun _ => ?_) (fun c9 => absurd c9 (by decide))
  refine lv_aload_n hx hb dX9_step_83 rfl (lv_at hl 3 rfl) ?_
  refine lv_iload_n hx hb dX9_step_84 rfl (lv_at hl 1 rfl) ?_
  refine y_cVv (D := (dC, dI)) (cl := vwCl) (tys := yt ca) (nw := zw_nest) (C := RX9) (As := [.int 0]) (rest := []) ⟨hx, hb, hml, hown, hts⟩ (m_X9_drive l dC dI ca ad hI (n + 1) hn2  ) (cwV 1 hts gX9_step_X9_drive rfl rfl rfl (by decide +kernel) ⟨Nat.le_of_ble_eq_true rfl, Nat.le_of_ble_eq_true rfl⟩) (z_recv (ci := 9) (i := 0) hK hH yk_0 (by decide) rfl) hH hK hN hX zw_nest_ok rfl hl.1 rfl (Nat.le_of_ble_eq_true rfl) dX9_step_85 ⟨Nat.le_of_ble_eq_true rfl, Nat.le_of_ble_eq_true rfl⟩ hS (fun _ h => h) (fun H locs hB1 oq1 hz1 hS => ?_)
  have hH : z_H (dC, dI) vwCl yf ca yd ad (yM (n + 1)) H := hB1
  refine lv_aload_n hx hb dX9_step_88 rfl (lv_at hl 3 rfl) ?_
  refine lv_aload_n hx hb dX9_step_89 rfl (lv_at hl 3 rfl) ?_
  refine z_gi (D := (dC, dI)) (cl := vwCl) (C := RX9) (T := TX9) (N := 24) (ci := 9) (k := 15) hx hb hts hinX9 hown hK hH (i := 0) yk_0 (by decide) rfl (by decide) rfl (hts (.fieldLink RX9 78 "SteamfieldModel$Field" "need" "I") (by decide +kernel)) (fun _ h9 => h9) dX9_step_90 ?_
  refine y_num (b := 0) rfl ?_
  refine lv_iconst (v := 0) hx hb dX9_step_93 (by decide) ?_
  refine lv_aload_n hx hb dX9_step_94 rfl (lv_at hl 3 rfl) ?_
  refine z_gr (D := (dC, dI)) (cl := vwCl) (C := RX9) (T := TX9) (N := 24) (ci := 9) (k := 8) hx hb hts hinX9 hown hK hH (i := 0) yk_0 (by decide) rfl (by decide) rfl yr_8 (hts (.fieldLink RX9 25 "SteamfieldModel$Field" "pond" "[I") (by decide +kernel)) (fun _ h9 => h9) dX9_step_95 ?_
  refine lv_iconst (v := 1) hx hb dX9_step_98 (by decide) ?_
  refine z_al (t0 := 0) (D := (dC, dI)) (cl := vwCl) (tys := yt ca) hx hb hK hH (i := 34) yk_34 rfl (show vp_in 1 6 from zx (n := 1) rfl (by decide) (by decide)) dX9_step_99 ?_
  refine y_num (b := 0) rfl ?_
  refine lv_bipush (v := 30) hx hb dX9_step_100 (by decide) ?_
  refine lv_aload_n hx hb dX9_step_102 rfl (lv_at hl 3 rfl) ?_
  refine z_gr (D := (dC, dI)) (cl := vwCl) (C := RX9) (T := TX9) (N := 24) (ci := 9) (k := 8) hx hb hts hinX9 hown hK hH (i := 0) yk_0 (by decide) rfl (by decide) rfl yr_8 (hts (.fieldLink RX9 25 "SteamfieldModel$Field" "pond" "[I") (by decide +kernel)) (fun _ h9 => h9) dX9_step_103 ?_
  refine lv_iconst (v := 0) hx hb dX9_step_106 (by decide) ?_
  refine z_al (t0 := 0) (D := (dC, dI)) (cl := vwCl) (tys := yt ca) hx hb hK hH (i := 34) yk_34 rfl (show vp_in 0 6 from zx (n := 0) rfl (by decide) (by decide)) dX9_step_107 ?_
  refine y_num (b := 0) rfl ?_
  refine lv_imul hx hb dX9_step_108 ?_
  refine y_num (b := 0) (by decide) ?_
  refine lv_isub hx hb dX9_step_109 ?_
  refine y_num (b := 0) (by decide) ?_
  refine va_mmax hx hb (hml.trans hl.1.symm) hown (hts (.methodLink RX9 109 Lib.Math.max.name) (by decide +kernel)) (hts (.static Lib.Math.max.name) (by decide +kernel)) (hts (.initialized "java/lang/Math") (by decide +kernel)) (hts (.code Lib.Math.max.name Lib.Math.max.code 2 (some .int)) (by decide +kernel)) (Nat.le_of_ble_eq_true rfl) (Nat.le_of_ble_eq_true rfl) (Nat.le_refl _) (Nat.le_refl _) dX9_step_110 ?_
  refine y_num (b := 0) (by decide) ?_
  refine va_mmin hx hb (hml.trans hl.1.symm) hown (hts (.methodLink RX9 84 Lib.Math.min.name) (by decide +kernel)) (hts (.static Lib.Math.min.name) (by decide +kernel)) (hts (.initialized "java/lang/Math") (by decide +kernel)) (hts (.code Lib.Math.min.name Lib.Math.min.code 2 (some .int)) (by decide +kernel)) (Nat.le_of_ble_eq_true rfl) (Nat.le_of_ble_eq_true rfl) (Nat.le_refl _) (Nat.le_refl _) dX9_step_113 ?_
  refine y_num (b := 0) (by decide) ?_
  refine zp_i (D := (dC, dI)) (cl := vwCl) (C := RX9) (T := TX9) (N := 24) (ci := 9) (k := 20) (ty := .int) hx hb hts hinX9 tyX9 tyX9_ok nmX9 hown hK hH hI hS (fun _ h => h) (i := 0) yk_0 (by decide) rfl (by decide) rfl (hts (.fieldLink RX9 112 "SteamfieldModel$Field" "warmed" "I") (by decide +kernel)) (fun _ h9 => h9) rfl (by decide +kernel) rfl rfl dX9_step_116 (fun H locs hH oq hS => ?_)
  rw [zu_same (show (yM (n + 1)) 0 20 = 0 from rfl)] at hH
  refine lv_aload_n hx hb dX9_step_119 rfl (lv_at hl 3 rfl) ?_
  refine z_gr (D := (dC, dI)) (cl := vwCl) (C := RX9) (T := TX9) (N := 24) (ci := 9) (k := 8) hx hb hts hinX9 hown hK hH (i := 0) yk_0 (by decide) rfl (by decide) rfl yr_8 (hts (.fieldLink RX9 25 "SteamfieldModel$Field" "pond" "[I") (by decide +kernel)) (fun _ h9 => h9) dX9_step_120 ?_
  refine lv_iconst (v := 1) hx hb dX9_step_123 (by decide) ?_
  refine lv_dup2_11 hx hb dX9_step_124 rfl rfl ?_
  refine z_al (t0 := 0) (D := (dC, dI)) (cl := vwCl) (tys := yt ca) hx hb hK hH (i := 34) yk_34 rfl (show vp_in 1 6 from zx (n := 1) rfl (by decide) (by decide)) dX9_step_125 ?_
  refine y_num (b := 0) rfl ?_
  refine lv_aload_n hx hb dX9_step_126 rfl (lv_at hl 3 rfl) ?_
  refine z_gi (D := (dC, dI)) (cl := vwCl) (C := RX9) (T := TX9) (N := 24) (ci := 9) (k := 20) hx hb hts hinX9 hown hK hH (i := 0) yk_0 (by decide) rfl (by decide) rfl (hts (.fieldLink RX9 112 "SteamfieldModel$Field" "warmed" "I") (by decide +kernel)) (fun _ h9 => h9) dX9_step_127 ?_
  refine y_num (b := 0) rfl ?_
  refine lv_isub hx hb dX9_step_130 ?_
  refine y_num (b := 0) (by decide) ?_
  refine zp_as (t0 := 0) (D := (dC, dI)) (cl := vwCl) (tys := yt ca) hx hb hK hH hI hS (fun _ h => h) (i := 34) yk_34 rfl (show vp_in 1 6 from zx (n := 1) rfl (by decide) (by decide)) dX9_step_131 (fun H locs hH oq hS => ?_)
  rw [show (1 : Int32).toNatClampNeg = 1 from rfl] at hH
  rw [zu_same (show (yM (n + 1)) 34 1 = 0 from rfl)] at hH
  refine lv_aload_n hx hb dX9_step_132 rfl (lv_at hl 3 rfl) ?_
  refine lv_iconst (v := 0) hx hb dX9_step_133 (by decide) ?_
  refine lv_aload_n hx hb dX9_step_134 rfl (lv_at hl 3 rfl) ?_
  refine z_gr (D := (dC, dI)) (cl := vwCl) (C := RX9) (T := TX9) (N := 24) (ci := 9) (k := 8) hx hb hts hinX9 hown hK hH (i := 0) yk_0 (by decide) rfl (by decide) rfl yr_8 (hts (.fieldLink RX9 25 "SteamfieldModel$Field" "pond" "[I") (by decide +kernel)) (fun _ h9 => h9) dX9_step_135 ?_
  refine lv_iconst (v := 0) hx hb dX9_step_138 (by decide) ?_
  refine z_al (t0 := 0) (D := (dC, dI)) (cl := vwCl) (tys := yt ca) hx hb hK hH (i := 34) yk_34 rfl (show vp_in 0 6 from zx (n := 0) rfl (by decide) (by decide)) dX9_step_139 ?_
  refine y_num (b := 0) rfl ?_
  refine lv_sipush (v := 500) hx hb dX9_step_140 (by decide) ?_
  refine lv_isub hx hb dX9_step_143 ?_
  refine y_num (b := (-500)) (by decide) ?_
  refine va_mmax hx hb (hml.trans hl.1.symm) hown (hts (.methodLink RX9 109 Lib.Math.max.name) (by decide +kernel)) (hts (.static Lib.Math.max.name) (by decide +kernel)) (hts (.initialized "java/lang/Math") (by decide +kernel)) (hts (.code Lib.Math.max.name Lib.Math.max.code 2 (some .int)) (by decide +kernel)) (Nat.le_of_ble_eq_true rfl) (Nat.le_of_ble_eq_true rfl) (Nat.le_refl _) (Nat.le_refl _) dX9_step_144 ?_
  refine y_num (b := 0) (by decide) ?_
  refine y_cVv (D := (dC, dI)) (cl := vwCl) (tys := yt ca) (nw := zw_nest) (C := RX9) (As := [.int 0]) (rest := []) ⟨hx, hb, hml, hown, hts⟩ (m_X9_dip l dC dI ca ad hI (n + 1) hn2  ) (cwV 1 hts gX9_step_X9_dip rfl rfl rfl (by decide +kernel) ⟨Nat.le_of_ble_eq_true rfl, Nat.le_of_ble_eq_true rfl⟩) (z_recv (ci := 9) (i := 0) hK hH yk_0 (by decide) rfl) hH hK hN hX zw_nest_ok rfl hl.1 rfl (Nat.le_of_ble_eq_true rfl) dX9_step_147 ⟨Nat.le_of_ble_eq_true rfl, Nat.le_of_ble_eq_true rfl⟩ hS (fun _ h => h) (fun H locs hB1 oq1 hz1 hS => ?_)
  have hH : z_H (dC, dI) vwCl yf ca yd ad (yM (n + 1)) H := hB1
  refine lv_iconst (v := 0) hx hb dX9_step_150 (by decide) ?_
  refine lv_istore_n (lv' := [(3, .int 0), (2, .int 0), (1, .int 0), (0, .ref (ad 0))]) hx hb dX9_step_151 rfl hl (by decide) rfl (fun ls hl => ?_)
  refine lv_iload_n hx hb dX9_step_152 rfl (lv_at hl 0 rfl) ?_
  refine lv_iconst (v := 4) hx hb dX9_step_153 (by decide) ?_
  refine lv_icmp_ge (tgt := 178) hx hb dX9_step_154 (by decide) (fun c9 => absurd c9 (by decide)) (fun _ => ?_)
  refine lv_aload_n hx hb dX9_step_157 rfl (lv_at hl 3 rfl) ?_
  refine z_gr (D := (dC, dI)) (cl := vwCl) (C := RX9) (T := TX9) (N := 24) (ci := 9) (k := 10) hx hb hts hinX9 hown hK hH (i := 0) yk_0 (by decide) rfl (by decide) rfl yr_10 (hts (.fieldLink RX9 32 "SteamfieldModel$Field" "spilled" "[I") (by decide +kernel)) (fun _ h9 => h9) dX9_step_158 ?_
  refine lv_iload_n hx hb dX9_step_161 rfl (lv_at hl 0 rfl) ?_
  refine lv_dup2_11 hx hb dX9_step_162 rfl rfl ?_
  refine z_al (t0 := 0) (D := (dC, dI)) (cl := vwCl) (tys := yt ca) hx hb hK hH (i := 36) yk_36 rfl (show vp_in 0 4 from zx (n := 0) rfl (by decide) (by decide)) dX9_step_163 ?_
  refine y_num (b := 0) rfl ?_
  refine lv_aload_n hx hb dX9_step_164 rfl (lv_at hl 3 rfl) ?_
  refine z_gr (D := (dC, dI)) (cl := vwCl) (C := RX9) (T := TX9) (N := 24) (ci := 9) (k := 23) hx hb hts hinX9 hown hK hH (i := 0) yk_0 (by decide) rfl (by decide) rfl yr_23 (hts (.fieldLink RX9 52 "SteamfieldModel$Field" "taken" "[I") (by decide +kernel)) (fun _ h9 => h9) dX9_step_165 ?_
  refine lv_iload_n hx hb dX9_step_168 rfl (lv_at hl 0 rfl) ?_
  refine z_al (t0 := 0) (D := (dC, dI)) (cl := vwCl) (tys := yt ca) hx hb hK hH (i := 40) yk_40 rfl (show vp_in 0 6 from zx (n := 0) rfl (by decide) (by decide)) dX9_step_169 ?_
  refine y_num (b := 0) rfl ?_
  refine lv_iadd hx hb dX9_step_170 ?_
  refine y_num (b := 0) (by decide) ?_
  refine zp_as (t0 := 0) (D := (dC, dI)) (cl := vwCl) (tys := yt ca) hx hb hK hH hI hS (fun _ h => h) (i := 36) yk_36 rfl (show vp_in 0 4 from zx (n := 0) rfl (by decide) (by decide)) dX9_step_171 (fun H locs hH oq hS => ?_)
  rw [show (0 : Int32).toNatClampNeg = 0 from rfl] at hH
  rw [zu_same (show (yM (n + 1)) 36 0 = 0 from rfl)] at hH
  refine lv_iinc (v := 1) (lv' := [(3, .int 1), (2, .int 0), (1, .int 0), (0, .ref (ad 0))]) hx hb dX9_step_172 hl (k := 0) rfl (by decide) (by decide) rfl (fun ls hl => ?_)
  refine lv_goto (tgt := 152) hx hb dX9_step_175 (by decide) ?_
  refine lv_iload_n hx hb dX9_step_152 rfl (lv_at hl 0 rfl) ?_
  refine lv_iconst (v := 4) hx hb dX9_step_153 (by decide) ?_
  refine lv_icmp_ge (tgt := 178) hx hb dX9_step_154 (by decide) (fun c9 => absurd c9 (by decide)) (fun _ => ?_)
  refine lv_aload_n hx hb dX9_step_157 rfl (lv_at hl 3 rfl) ?_
  refine z_gr (D := (dC, dI)) (cl := vwCl) (C := RX9) (T := TX9) (N := 24) (ci := 9) (k := 10) hx hb hts hinX9 hown hK hH (i := 0) yk_0 (by decide) rfl (by decide) rfl yr_10 (hts (.fieldLink RX9 32 "SteamfieldModel$Field" "spilled" "[I") (by decide +kernel)) (fun _ h9 => h9) dX9_step_158 ?_
  refine lv_iload_n hx hb dX9_step_161 rfl (lv_at hl 0 rfl) ?_
  refine lv_dup2_11 hx hb dX9_step_162 rfl rfl ?_
  refine z_al (t0 := 0) (D := (dC, dI)) (cl := vwCl) (tys := yt ca) hx hb hK hH (i := 36) yk_36 rfl (show vp_in 1 4 from zx (n := 1) rfl (by decide) (by decide)) dX9_step_163 ?_
  refine y_num (b := 0) rfl ?_
  refine lv_aload_n hx hb dX9_step_164 rfl (lv_at hl 3 rfl) ?_
  refine z_gr (D := (dC, dI)) (cl := vwCl) (C := RX9) (T := TX9) (N := 24) (ci := 9) (k := 23) hx hb hts hinX9 hown hK hH (i := 0) yk_0 (by decide) rfl (by decide) rfl yr_23 (hts (.fieldLink RX9 52 "SteamfieldModel$Field" "taken" "[I") (by decide +kernel)) (fun _ h9 => h9) dX9_step_165 ?_
  refine lv_iload_n hx hb dX9_step_168 rfl (lv_at hl 0 rfl) ?_
  refine z_al (t0 := 0) (D := (dC, dI)) (cl := vwCl) (tys := yt ca) hx hb hK hH (i := 40) yk_40 rfl (show vp_in 1 6 from zx (n := 1) rfl (by decide) (by decide)) dX9_step_169 ?_
  refine y_num (b := 0) rfl ?_
  refine lv_iadd hx hb dX9_step_170 ?_
  refine y_num (b := 0) (by decide) ?_
  refine zp_as (t0 := 0) (D := (dC, dI)) (cl := vwCl) (tys := yt ca) hx hb hK hH hI hS (fun _ h => h) (i := 36) yk_36 rfl (show vp_in 1 4 from zx (n := 1) rfl (by decide) (by decide)) dX9_step_171 (fun H locs hH oq hS => ?_)
  rw [show (1 : Int32).toNatClampNeg = 1 from rfl] at hH
  rw [zu_same (show (yM (n + 1)) 36 1 = 0 from rfl)] at hH
  refine lv_iinc (v := 2) (lv' := [(3, .int 2), (2, .int 0), (1, .int 0), (0, .ref (ad 0))]) hx hb dX9_step_172 hl (k := 0) rfl (by decide) (by decide) rfl (fun ls hl => ?_)
  refine lv_goto (tgt := 152) hx hb dX9_step_175 (by decide) ?_
  refine lv_iload_n hx hb dX9_step_152 rfl (lv_at hl 0 rfl) ?_
  refine lv_iconst (v := 4) hx hb dX9_step_153 (by decide) ?_
  refine lv_icmp_ge (tgt := 178) hx hb dX9_step_154 (by decide) (fun c9 => absurd c9 (by decide)) (fun _ => ?_)
  refine lv_aload_n hx hb dX9_step_157 rfl (lv_at hl 3 rfl) ?_
  refine z_gr (D := (dC, dI)) (cl := vwCl) (C := RX9) (T := TX9) (N := 24) (ci := 9) (k := 10) hx hb hts hinX9 hown hK hH (i := 0) yk_0 (by decide) rfl (by decide) rfl yr_10 (hts (.fieldLink RX9 32 "SteamfieldModel$Field" "spilled" "[I") (by decide +kernel)) (fun _ h9 => h9) dX9_step_158 ?_
  refine lv_iload_n hx hb dX9_step_161 rfl (lv_at hl 0 rfl) ?_
  refine lv_dup2_11 hx hb dX9_step_162 rfl rfl ?_
  refine z_al (t0 := 0) (D := (dC, dI)) (cl := vwCl) (tys := yt ca) hx hb hK hH (i := 36) yk_36 rfl (show vp_in 2 4 from zx (n := 2) rfl (by decide) (by decide)) dX9_step_163 ?_
  refine y_num (b := 0) rfl ?_
  refine lv_aload_n hx hb dX9_step_164 rfl (lv_at hl 3 rfl) ?_
  refine z_gr (D := (dC, dI)) (cl := vwCl) (C := RX9) (T := TX9) (N := 24) (ci := 9) (k := 23) hx hb hts hinX9 hown hK hH (i := 0) yk_0 (by decide) rfl (by decide) rfl yr_23 (hts (.fieldLink RX9 52 "SteamfieldModel$Field" "taken" "[I") (by decide +kernel)) (fun _ h9 => h9) dX9_step_165 ?_
  refine lv_iload_n hx hb dX9_step_168 rfl (lv_at hl 0 rfl) ?_
  refine z_al (t0 := 0) (D := (dC, dI)) (cl := vwCl) (tys := yt ca) hx hb hK hH (i := 40) yk_40 rfl (show vp_in 2 6 from zx (n := 2) rfl (by decide) (by decide)) dX9_step_169 ?_
  refine y_num (b := 0) rfl ?_
  refine lv_iadd hx hb dX9_step_170 ?_
  refine y_num (b := 0) (by decide) ?_
  refine zp_as (t0 := 0) (D := (dC, dI)) (cl := vwCl) (tys := yt ca) hx hb hK hH hI hS (fun _ h => h) (i := 36) yk_36 rfl (show vp_in 2 4 from zx (n := 2) rfl (by decide) (by decide)) dX9_step_171 (fun H locs hH oq hS => ?_)
  rw [show (2 : Int32).toNatClampNeg = 2 from rfl] at hH
  rw [zu_same (show (yM (n + 1)) 36 2 = 0 from rfl)] at hH
  refine lv_iinc (v := 3) (lv' := [(3, .int 3), (2, .int 0), (1, .int 0), (0, .ref (ad 0))]) hx hb dX9_step_172 hl (k := 0) rfl (by decide) (by decide) rfl (fun ls hl => ?_)
  refine lv_goto (tgt := 152) hx hb dX9_step_175 (by decide) ?_
  refine lv_iload_n hx hb dX9_step_152 rfl (lv_at hl 0 rfl) ?_
  refine lv_iconst (v := 4) hx hb dX9_step_153 (by decide) ?_
  refine lv_icmp_ge (tgt := 178) hx hb dX9_step_154 (by decide) (fun c9 => absurd c9 (by decide)) (fun _ => ?_)
  refine lv_aload_n hx hb dX9_step_157 rfl (lv_at hl 3 rfl) ?_
  refine z_gr (D := (dC, dI)) (cl := vwCl) (C := RX9) (T := TX9) (N := 24) (ci := 9) (k := 10) hx hb hts hinX9 hown hK hH (i := 0) yk_0 (by decide) rfl (by decide) rfl yr_10 (hts (.fieldLink RX9 32 "SteamfieldModel$Field" "spilled" "[I") (by decide +kernel)) (fun _ h9 => h9) dX9_step_158 ?_
  refine lv_iload_n hx hb dX9_step_161 rfl (lv_at hl 0 rfl) ?_
  refine lv_dup2_11 hx hb dX9_step_162 rfl rfl ?_
  refine z_al (t0 := 0) (D := (dC, dI)) (cl := vwCl) (tys := yt ca) hx hb hK hH (i := 36) yk_36 rfl (show vp_in 3 4 from zx (n := 3) rfl (by decide) (by decide)) dX9_step_163 ?_
  refine y_num (b := 0) rfl ?_
  refine lv_aload_n hx hb dX9_step_164 rfl (lv_at hl 3 rfl) ?_
  refine z_gr (D := (dC, dI)) (cl := vwCl) (C := RX9) (T := TX9) (N := 24) (ci := 9) (k := 23) hx hb hts hinX9 hown hK hH (i := 0) yk_0 (by decide) rfl (by decide) rfl yr_23 (hts (.fieldLink RX9 52 "SteamfieldModel$Field" "taken" "[I") (by decide +kernel)) (fun _ h9 => h9) dX9_step_165 ?_
  refine lv_iload_n hx hb dX9_step_168 rfl (lv_at hl 0 rfl) ?_
  refine z_al (t0 := 0) (D := (dC, dI)) (cl := vwCl) (tys := yt ca) hx hb hK hH (i := 40) yk_40 rfl (show vp_in 3 6 from zx (n := 3) rfl (by decide) (by decide)) dX9_step_169 ?_
  refine y_num (b := 0) rfl ?_
  refine lv_iadd hx hb dX9_step_170 ?_
  refine y_num (b := 0) (by decide) ?_
  refine zp_as (t0 := 0) (D := (dC, dI)) (cl := vwCl) (tys := yt ca) hx hb hK hH hI hS (fun _ h => h) (i := 36) yk_36 rfl (show vp_in 3 4 from zx (n := 3) rfl (by decide) (by decide)) dX9_step_171 (fun H locs hH oq hS => ?_)
  rw [show (3 : Int32).toNatClampNeg = 3 from rfl] at hH
  rw [zu_same (show (yM (n + 1)) 36 3 = 0 from rfl)] at hH
  refine lv_iinc (v := 4) (lv' := [(3, .int 4), (2, .int 0), (1, .int 0), (0, .ref (ad 0))]) hx hb dX9_step_172 hl (k := 0) rfl (by decide) (by decide) rfl (fun ls hl => ?_)
  refine lv_goto (tgt := 152) hx hb dX9_step_175 (by decide) ?_
  refine lv_iload_n hx hb dX9_step_152 rfl (lv_at hl 0 rfl) ?_
  refine lv_iconst (v := 4) hx hb dX9_step_153 (by decide) ?_
  refine lv_icmp_ge (tgt := 178) hx hb dX9_step_154 (by decide) (fun _ => ?_) (fun c9 => absurd c9 (by decide))
  refine lv_iconst (v := 0) hx hb dX9_step_178 (by decide) ?_
  refine lv_istore_n (lv' := [(3, .int 0), (2, .int 0), (1, .int 0), (0, .ref (ad 0))]) hx hb dX9_step_179 rfl hl (by decide) rfl (fun ls hl => ?_)
  refine lv_iconst (v := 0) hx hb dX9_step_180 (by decide) ?_
  refine lv_istore (lv' := [(4, .int 0), (3, .int 0), (2, .int 0), (1, .int 0), (0, .ref (ad 0))]) hx hb dX9_step_181 hl (by decide) rfl (fun ls hl => ?_)
  refine lv_iload hx hb dX9_step_183 (lv_at hl 0 rfl) ?_
  refine lv_aload_n hx hb dX9_step_185 rfl (lv_at hl 4 rfl) ?_
  refine z_gi (D := (dC, dI)) (cl := vwCl) (C := RX9) (T := TX9) (N := 24) (ci := 9) (k := 6) hx hb hts hinX9 hown hK hH (i := 0) yk_0 (by decide) rfl (by decide) rfl (hts (.fieldLink RX9 66 "SteamfieldModel$Field" "manyWells" "I") (by decide +kernel)) (fun _ h9 => h9) dX9_step_186 ?_
  refine y_num (b := 0) rfl ?_
  refine lv_icmp_ge (tgt := 226) hx hb dX9_step_189 (by decide) (fun _ => ?_) (fun c9 => absurd c9 (by decide))
  refine lv_aload_n hx hb dX9_step_226 rfl (lv_at hl 4 rfl) ?_
  refine z_gr (D := (dC, dI)) (cl := vwCl) (C := RX9) (T := TX9) (N := 24) (ci := 9) (k := 13) hx hb hts hinX9 hown hK hH (i := 0) yk_0 (by decide) rfl (by decide) rfl yr_13 (hts (.fieldLink RX9 41 "SteamfieldModel$Field" "shocks" "[I") (by decide +kernel)) (fun _ h9 => h9) dX9_step_227 ?_
  refine lv_aload_n hx hb dX9_step_230 rfl (lv_at hl 4 rfl) ?_
  refine z_gi (D := (dC, dI)) (cl := vwCl) (C := RX9) (T := TX9) (N := 24) (ci := 9) (k := 17) hx hb hts hinX9 hown hK hH (i := 0) yk_0 (by decide) rfl (by decide) rfl (hts (.fieldLink RX9 81 "SteamfieldModel$Field" "now" "I") (by decide +kernel)) (fun _ h9 => h9) dX9_step_231 ?_
  refine y_num (b := (nI (n + 1))) rfl ?_
  refine lv_iconst (v := 4) hx hb dX9_step_234 (by decide) ?_
  refine lv_irem hx hb dX9_step_235 (by decide) ?_
  refine lv_iload_n hx hb dX9_step_236 rfl (lv_at hl 1 rfl) ?_
  refine zp_as (t0 := 0) (D := (dC, dI)) (cl := vwCl) (tys := yt ca) hx hb hK hH hI hS (fun _ h => h) (i := 39) yk_39 rfl (show vp_in ((nI (n + 1)) - (nI (n + 1)) / 4 * 4) 4 from y_rem4 (by omega)) dX9_step_237 (fun H locs hH oq hS => ?_)
  rw [zu_same (show (yM (n + 1)) 39 (((nI (n + 1)) - (nI (n + 1)) / 4 * 4) : Int32).toNatClampNeg = 0 from rfl)] at hH
  refine lv_iconst (v := 0) hx hb dX9_step_238 (by decide) ?_
  refine lv_istore (lv' := [(4, .int 0), (3, .int 0), (2, .int 0), (1, .int 0), (0, .ref (ad 0))]) hx hb dX9_step_239 hl (by decide) rfl (fun ls hl => ?_)
  refine lv_iload hx hb dX9_step_241 (lv_at hl 0 rfl) ?_
  refine lv_aload_n hx hb dX9_step_243 rfl (lv_at hl 4 rfl) ?_
  refine z_gi (D := (dC, dI)) (cl := vwCl) (C := RX9) (T := TX9) (N := 24) (ci := 9) (k := 7) hx hb hts hinX9 hown hK hH (i := 0) yk_0 (by decide) rfl (by decide) rfl (hts (.fieldLink RX9 69 "SteamfieldModel$Field" "manySprings" "I") (by decide +kernel)) (fun _ h9 => h9) dX9_step_244 ?_
  refine y_num (b := 0) rfl ?_
  refine lv_icmp_ge (tgt := 267) hx hb dX9_step_247 (by decide) (fun _ => ?_) (fun c9 => absurd c9 (by decide))
  refine lv_aload_n hx hb dX9_step_267 rfl (lv_at hl 4 rfl) ?_
  refine y_cVv (D := (dC, dI)) (cl := vwCl) (tys := yt ca) (nw := zw_nest) (C := RX9) (As := []) (rest := []) ⟨hx, hb, hml, hown, hts⟩ (m_X9_pay l dC dI ca ad hI (n + 1) hn2  ) (cwV 0 hts gX9_step_X9_pay rfl rfl rfl (by decide +kernel) ⟨Nat.le_of_ble_eq_true rfl, Nat.le_of_ble_eq_true rfl⟩) (z_recv (ci := 9) (i := 0) hK hH yk_0 (by decide) rfl) hH hK hN hX zw_nest_ok rfl hl.1 rfl (Nat.le_of_ble_eq_true rfl) dX9_step_268 ⟨Nat.le_of_ble_eq_true rfl, Nat.le_of_ble_eq_true rfl⟩ hS (fun _ h => h) (fun H locs hB1 oq1 hz1 hS => ?_)
  have hH : z_H (dC, dI) vwCl yf ca yd ad (yM (n + 1)) H := hB1
  refine W.widen (k := 0) (n := 0) (Nat.le_of_ble_eq_true rfl) (Nat.le_of_ble_eq_true rfl) ?_
  exact W.vret hx hb hr (fun t ht hW => ⟨⟨(), rfl, trivial, z_to (B := (fun H => yW dC dI ca ad (yM (n + 1)) H)) ht hH⟩, hS.F ht⟩) hS.2.2 dX9_step_271
set_option maxHeartbeats 4000000 in
set_option maxRecDepth 100000 in
theorem m_X9_run (l : Launch) (dC : Nat → ClassId) (dI : Nat → Nat → Nat) (ca : Nat → ClassId) (ad : Nat → Nat) (hI : z_I yd ad) (n : Nat) (hn : n < 1000) (K : Nat) (hk30 : n + K < 1000): Met l yX9_run wsX9_run ({ frames := 3, cells := 0, slots := 0, locals := 72 }) (z_Py (dC, dI) vwCl (yt ca) zw_nest [.ref (ad 0), .int (nI K)] (fun H => yW dC dI ca ad (yM n) H)) (z_Qi 0 (fun H => yW dC dI ca ad (yM (n + K)) H) (z_A yd ad)) 0 0 (z_A yd ad) := by
  refine Met.ofW (cc := cX9_run) (maxL := 4) (ret := (some .int)) (by decide) rfl ?_
  intro p e s m args below meth c s₁ B9 hml hv
  obtain ⟨rfl, hH, hK, hN, hX⟩ := hv
  have hx := B9.exec
  have hb := B9.bytes
  have hr := B9.returns
  have hts := atoms_spec (ws := wsX9_run) B9.pre
  have hown : s.vm.findClass RX9 = some m.cls := findClass_of_methodNamed B9.named
  have hlocks := B9.notSynchronized
  have hS : va_S (z_A yd ad) s.heap s.heap [] := va_S.rf
  have hinX9 : ∀ w ∈ u_ws RX9 TX9 24, w ∈ wsX9_run := by decide +kernel
  have hl := lv_entry ([.ref (ad 0), .int (nI K)]) (n := 4) (Nat.le_of_ble_eq_true rfl)
  rw [lg_entry_eq]
  generalize (lg_sl ([.ref (ad 0), .int (nI K)]) ++ List.replicate (4 - (lg_sl ([.ref (ad 0), .int (nI K)])).length) Slot.unset).toArray = ls at hl ⊢
  have hl : lv_has ls 4 [(0, .ref (ad 0)), (1, .int (nI K))] := hl
  refine lv_iconst (v := 0) hx hb dX9_run_0 (by decide) ?_
  refine lv_istore_n (lv' := [(2, .int 0), (0, .ref (ad 0)), (1, .int (nI K))]) hx hb dX9_run_1 rfl hl (by decide) rfl (fun ls hl => ?_)
  refine lv_iconst (v := 0) hx hb dX9_run_2 (by decide) ?_
  refine lv_istore_n (lv' := [(3, .int 0), (2, .int 0), (0, .ref (ad 0)), (1, .int (nI K))]) hx hb dX9_run_3 rfl hl (by decide) rfl (fun ls hl => ?_)
  have L0 : ∀ (d k : Nat), k ≤ K → K - k < d → ∀ ls : Array Slot, lv_has ls 4 [(3, .int (nI k)), (2, .int 0), (0, .ref (ad 0)), (1, .int (nI K))] → ∀ (H : Heap) (locs : List Loc), yW dC dI ca ad (yM (n + k)) H → va_S (z_A yd ad) s.heap H locs → W p l e (headSpec wsX9_run ({ frames := 3, cells := 0, slots := 0, locals := 72 })).room s m ([.ref (ad 0), .int (nI K)] : List Value).toArray below meth c H locs 0 0 (MQ below (z_Qi 0 (fun H => yW dC dI ca ad (yM (n + K)) H) (z_A yd ad)) ([.ref (ad 0), .int (nI K)] : List Value).toArray s 0 0 (z_A yd ad)) (F0 m 4 ls []) := by
    intro d
    induction d with
    | zero => intro k _ hd; exact absurd hd (Nat.not_lt_zero _)
    | succ d ih =>
      intro k hk hd ls hl H locs hH hS
      refine lv_iload_n hx hb dX9_run_4 rfl (lv_at hl 0 rfl) ?_
      refine lv_iload_n hx hb dX9_run_5 rfl (lv_at hl 3 rfl) ?_
      refine lv_icmp_ge (tgt := 26) hx hb dX9_run_6 (by decide) (fun c1 => ?_) (fun c1 => ?_)
      · have e9 : k = K := z_ge rfl rfl hk (by omega) c1
        rw [e9] at hH
        refine lv_iload_n hx hb dX9_run_26 rfl (lv_at hl 1 rfl) ?_
        refine W.widen (k := 0) (n := 0) (Nat.le_of_ble_eq_true rfl) (Nat.le_of_ble_eq_true rfl) ?_
        exact W.iret (v := 0) hx hb hr (fun t ht hW => ⟨⟨0, (), rfl, rfl, z_to (B := (fun H => yW dC dI ca ad (yM (n + K)) H)) ht hH⟩, hS.F ht⟩) hS.2.2 dX9_run_27
      · have hk9 : k < K := z_lt rfl rfl hk (by omega) c1
        refine lv_aload_n hx hb dX9_run_9 rfl (lv_at hl 2 rfl) ?_
        refine y_cVv (D := (dC, dI)) (cl := vwCl) (tys := yt ca) (nw := zw_nest) (C := RX9) (As := []) (rest := []) ⟨hx, hb, hml, hown, hts⟩ (m_X9_step l dC dI ca ad hI (n + k) (by omega)  (by omega)) (cwV 0 hts gX9_run_X9_step rfl rfl rfl (by decide +kernel) ⟨Nat.le_of_ble_eq_true rfl, Nat.le_of_ble_eq_true rfl⟩) (z_recv (ci := 9) (i := 0) hK hH yk_0 (by decide) rfl) hH hK hN hX zw_nest_ok rfl hl.1 rfl (Nat.le_of_ble_eq_true rfl) dX9_run_10 ⟨Nat.le_of_ble_eq_true rfl, Nat.le_of_ble_eq_true rfl⟩ hS (fun _ h => h) (fun H locs hB1 oq1 hz1 hS => ?_)
        have hH : z_H (dC, dI) vwCl yf ca yd ad (yM (n + k + 1)) H := hB1
        refine lv_iload_n hx hb dX9_run_13 rfl (lv_at hl 1 rfl) ?_
        refine lv_aload_n hx hb dX9_run_14 rfl (lv_at hl 2 rfl) ?_
        refine z_gi (D := (dC, dI)) (cl := vwCl) (C := RX9) (T := TX9) (N := 24) (ci := 9) (k := 18) hx hb hts hinX9 hown hK hH (i := 0) yk_0 (by decide) rfl (by decide) rfl (hts (.fieldLink RX9 142 "SteamfieldModel$Field" "power" "I") (by decide +kernel)) (fun _ h9 => h9) dX9_run_15 ?_
        refine y_num (b := 0) rfl ?_
        refine lv_iadd hx hb dX9_run_18 ?_
        refine y_num (b := 0) (by decide) ?_
        refine lv_istore_n (lv' := [(2, .int 0), (3, .int (nI k)), (0, .ref (ad 0)), (1, .int (nI K))]) hx hb dX9_run_19 rfl hl (by decide) rfl (fun ls hl => ?_)
        refine lv_iinc (v := ((nI k) + 1)) (lv' := [(3, .int ((nI k) + 1)), (2, .int 0), (0, .ref (ad 0)), (1, .int (nI K))]) hx hb dX9_run_20 hl (k := 1) rfl rfl (by decide) rfl (fun ls hl => ?_)
        refine lv_goto (tgt := 4) hx hb dX9_run_23 (by decide) ?_
        rw [← nI_succ] at hl
        exact ih (k + 1) hk9 (by omega) ls (lv_sub hl [0, 1, 2, 3] rfl) H locs hH hS
  exact L0 (K + 1) 0 (Nat.zero_le _) (by omega) ls (lv_sub hl [0, 1, 2, 3] rfl) s.heap [] hH hS
