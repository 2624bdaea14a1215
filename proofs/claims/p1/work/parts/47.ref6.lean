set_option maxHeartbeats 4000000 in
set_option maxRecDepth 100000 in
theorem m_X10_isy (l : Launch) (dC : Nat → ClassId) (dI : Nat → Nat → Nat) (ca : Nat → ClassId) (B : Heap → Prop) (a0 a1 a2 : Int32) (h : z_rg a0 a1 a2): Met l yX10_is wsX10_is ({ frames := 0, cells := 0, slots := 0, locals := 0 }) (z_Py (dC, dI) vwCl (yt ca) zw_nest [.int a0, .int a1, .int a2] (fun H => B H)) (z_Qi 1 (fun H => B H) (fun _ => False)) 0 0 (fun _ => False) := by
  refine Met.ofW (cc := cX10_is) (maxL := 3) (ret := (some .boolean)) (by decide) rfl ?_
  intro p e s m args below meth c s₁ B9 hml hv
  obtain ⟨rfl, hB, hK, hN, hX⟩ := hv
  have hx := B9.exec
  have hb := B9.bytes
  have hr := B9.returns
  have hts := atoms_spec (ws := wsX10_is) B9.pre
  have hown : s.vm.findClass RX10 = some m.cls := findClass_of_methodNamed B9.named
  have hlocks := B9.notSynchronized
  have hS : va_S (fun _ => False) s.heap s.heap [] := va_S.rf
  have hl := lv_entry ([.int a0, .int a1, .int a2]) (n := 3) (Nat.le_of_ble_eq_true rfl)
  rw [lg_entry_eq]
  generalize (lg_sl ([.int a0, .int a1, .int a2]) ++ List.replicate (3 - (lg_sl ([.int a0, .int a1, .int a2])).length) Slot.unset).toArray = ls at hl ⊢
  have hl : lv_has ls 3 [(0, .int a0), (1, .int a1), (2, .int a2)] := hl
  refine lv_iload_n hx hb dX10_is_0 rfl (lv_at hl 0 rfl) ?_
  refine lv_iload_n hx hb dX10_is_1 rfl (lv_at hl 1 rfl) ?_
  refine lv_icmp_lt (tgt := 14) hx hb dX10_is_2 (by decide) (fun c9 => absurd c9 h.1) (fun _ => ?_)
  refine lv_iload_n hx hb dX10_is_5 rfl (lv_at hl 0 rfl) ?_
  refine lv_iload_n hx hb dX10_is_6 rfl (lv_at hl 2 rfl) ?_
  refine lv_icmp_gt (tgt := 14) hx hb dX10_is_7 (by decide) (fun c9 => absurd c9 h.2) (fun _ => ?_)
  refine lv_iconst (v := 1) hx hb dX10_is_10 (by decide) ?_
  refine lv_goto (tgt := 15) hx hb dX10_is_11 (by decide) ?_
  refine W.widen (k := 0) (n := 0) (Nat.le_of_ble_eq_true rfl) (Nat.le_of_ble_eq_true rfl) ?_
  exact W.zret (v := 1) (ty := .boolean) hx hb hr (by decide) (fun t ht hW => ⟨⟨1, (), rfl, rfl, z_to (B := (fun H => B H)) ht hB⟩, hS.F ht⟩) hS.2.2 dX10_is_15
set_option maxHeartbeats 4000000 in
set_option maxRecDepth 100000 in
theorem m_X10_isn (l : Launch) (dC : Nat → ClassId) (dI : Nat → Nat → Nat) (ca : Nat → ClassId) (B : Heap → Prop) (a0 a1 a2 : Int32) (h : ¬ z_rg a0 a1 a2): Met l yX10_is wsX10_is ({ frames := 0, cells := 0, slots := 0, locals := 0 }) (z_Py (dC, dI) vwCl (yt ca) zw_nest [.int a0, .int a1, .int a2] (fun H => B H)) (z_Qi 0 (fun H => B H) (fun _ => False)) 0 0 (fun _ => False) := by
  refine Met.ofW (cc := cX10_is) (maxL := 3) (ret := (some .boolean)) (by decide) rfl ?_
  intro p e s m args below meth c s₁ B9 hml hv
  obtain ⟨rfl, hB, hK, hN, hX⟩ := hv
  have hx := B9.exec
  have hb := B9.bytes
  have hr := B9.returns
  have hts := atoms_spec (ws := wsX10_is) B9.pre
  have hown : s.vm.findClass RX10 = some m.cls := findClass_of_methodNamed B9.named
  have hlocks := B9.notSynchronized
  have hS : va_S (fun _ => False) s.heap s.heap [] := va_S.rf
  have hl := lv_entry ([.int a0, .int a1, .int a2]) (n := 3) (Nat.le_of_ble_eq_true rfl)
  rw [lg_entry_eq]
  generalize (lg_sl ([.int a0, .int a1, .int a2]) ++ List.replicate (3 - (lg_sl ([.int a0, .int a1, .int a2])).length) Slot.unset).toArray = ls at hl ⊢
  have hl : lv_has ls 3 [(0, .int a0), (1, .int a1), (2, .int a2)] := hl
  refine lv_iload_n hx hb dX10_is_0 rfl (lv_at hl 0 rfl) ?_
  refine lv_iload_n hx hb dX10_is_1 rfl (lv_at hl 1 rfl) ?_
  refine lv_icmp_lt (tgt := 14) hx hb dX10_is_2 (by decide) (fun c1 => ?_) (fun c1 => ?_)
  · refine lv_iconst (v := 0) hx hb dX10_is_14 (by decide) ?_
    refine W.widen (k := 0) (n := 0) (Nat.le_of_ble_eq_true rfl) (Nat.le_of_ble_eq_true rfl) ?_
    exact W.zret (v := 0) (ty := .boolean) hx hb hr (by decide) (fun t ht hW => ⟨⟨0, (), rfl, rfl, z_to (B := (fun H => B H)) ht hB⟩, hS.F ht⟩) hS.2.2 dX10_is_15
  · refine lv_iload_n hx hb dX10_is_5 rfl (lv_at hl 0 rfl) ?_
    refine lv_iload_n hx hb dX10_is_6 rfl (lv_at hl 2 rfl) ?_
    refine lv_icmp_gt (tgt := 14) hx hb dX10_is_7 (by decide) (fun _ => ?_) (fun c9 => absurd ⟨c1, c9⟩ h)
    refine lv_iconst (v := 0) hx hb dX10_is_14 (by decide) ?_
    refine W.widen (k := 0) (n := 0) (Nat.le_of_ble_eq_true rfl) (Nat.le_of_ble_eq_true rfl) ?_
    exact W.zret (v := 0) (ty := .boolean) hx hb hr (by decide) (fun t ht hW => ⟨⟨0, (), rfl, rfl, z_to (B := (fun H => B H)) ht hB⟩, hS.F ht⟩) hS.2.2 dX10_is_15
set_option maxHeartbeats 4000000 in
set_option maxRecDepth 100000 in
theorem m_X10_areStepsy (l : Launch) (dC : Nat → ClassId) (dI : Nat → Nat → Nat) (ca : Nat → ClassId) (B : Heap → Prop) (a0 : Int32) (h : z_rg a0 1 30): Met l yX10_areSteps wsX10_areSteps ({ frames := 1, cells := 0, slots := 0, locals := 22 }) (z_Py (dC, dI) vwCl (yt ca) zw_nest [.int a0] (fun H => B H)) (z_Qi 1 (fun H => B H) (fun _ => False)) 0 0 (fun _ => False) := by
  refine Met.ofW (cc := cX10_areSteps) (maxL := 1) (ret := (some .boolean)) (by decide) rfl ?_
  intro p e s m args below meth c s₁ B9 hml hv
  obtain ⟨rfl, hB, hK, hN, hX⟩ := hv
  have hx := B9.exec
  have hb := B9.bytes
  have hr := B9.returns
  have hts := atoms_spec (ws := wsX10_areSteps) B9.pre
  have hown : s.vm.findClass RX10 = some m.cls := findClass_of_methodNamed B9.named
  have hlocks := B9.notSynchronized
  have hS : va_S (fun _ => False) s.heap s.heap [] := va_S.rf
  have hl := lv_entry ([.int a0]) (n := 1) (Nat.le_of_ble_eq_true rfl)
  rw [lg_entry_eq]
  generalize (lg_sl ([.int a0]) ++ List.replicate (1 - (lg_sl ([.int a0])).length) Slot.unset).toArray = ls at hl ⊢
  have hl : lv_has ls 1 [(0, .int a0)] := hl
  refine lv_iload_n hx hb dX10_areSteps_0 rfl (lv_at hl 0 rfl) ?_
  refine lv_iconst (v := 1) hx hb dX10_areSteps_1 (by decide) ?_
  refine lv_bipush (v := 30) hx hb dX10_areSteps_2 (by decide) ?_
  refine y_cSi (D := (dC, dI)) (cl := vwCl) (tys := yt ca) (nw := zw_nest) (As := [.int a0, .int 1, .int 30]) (rest := []) ⟨hx, hb, hml, hown, hts⟩ (m_X10_isy l dC dI ca (fun z : Heap => z = s.heap) a0 1 30 h) (cwS 3 hts gX10_areSteps_X10_is rfl rfl rfl (by decide +kernel) ⟨Nat.le_of_ble_eq_true rfl, Nat.le_of_ble_eq_true rfl⟩) rfl hK hN hX zw_nest_ok rfl hl.1 rfl (Nat.le_of_ble_eq_true rfl) dX10_areSteps_4 ⟨Nat.le_of_ble_eq_true rfl, Nat.le_of_ble_eq_true rfl⟩ hS (fun _ h => h.elim) (fun H locs hB1 oq1 hz1 hS => ?_)
  have hB : B H := by rw [hB1]; exact hB
  refine W.widen (k := 0) (n := 0) (Nat.le_of_ble_eq_true rfl) (Nat.le_of_ble_eq_true rfl) ?_
  exact W.zret (v := 1) (ty := .boolean) hx hb hr (by decide) (fun t ht hW => ⟨⟨1, (), rfl, rfl, z_to (B := (fun H => B H)) ht hB⟩, hS.F ht⟩) hS.2.2 dX10_areSteps_7
set_option maxHeartbeats 4000000 in
set_option maxRecDepth 100000 in
theorem m_X10_areStepsn (l : Launch) (dC : Nat → ClassId) (dI : Nat → Nat → Nat) (ca : Nat → ClassId) (B : Heap → Prop) (a0 : Int32) (h : ¬ z_rg a0 1 30): Met l yX10_areSteps wsX10_areSteps ({ frames := 1, cells := 0, slots := 0, locals := 22 }) (z_Py (dC, dI) vwCl (yt ca) zw_nest [.int a0] (fun H => B H)) (z_Qi 0 (fun H => B H) (fun _ => False)) 0 0 (fun _ => False) := by
  refine Met.ofW (cc := cX10_areSteps) (maxL := 1) (ret := (some .boolean)) (by decide) rfl ?_
  intro p e s m args below meth c s₁ B9 hml hv
  obtain ⟨rfl, hB, hK, hN, hX⟩ := hv
  have hx := B9.exec
  have hb := B9.bytes
  have hr := B9.returns
  have hts := atoms_spec (ws := wsX10_areSteps) B9.pre
  have hown : s.vm.findClass RX10 = some m.cls := findClass_of_methodNamed B9.named
  have hlocks := B9.notSynchronized
  have hS : va_S (fun _ => False) s.heap s.heap [] := va_S.rf
  have hl := lv_entry ([.int a0]) (n := 1) (Nat.le_of_ble_eq_true rfl)
  rw [lg_entry_eq]
  generalize (lg_sl ([.int a0]) ++ List.replicate (1 - (lg_sl ([.int a0])).length) Slot.unset).toArray = ls at hl ⊢
  have hl : lv_has ls 1 [(0, .int a0)] := hl
  refine lv_iload_n hx hb dX10_areSteps_0 rfl (lv_at hl 0 rfl) ?_
  refine lv_iconst (v := 1) hx hb dX10_areSteps_1 (by decide) ?_
  refine lv_bipush (v := 30) hx hb dX10_areSteps_2 (by decide) ?_
  refine y_cSi (D := (dC, dI)) (cl := vwCl) (tys := yt ca) (nw := zw_nest) (As := [.int a0, .int 1, .int 30]) (rest := []) ⟨hx, hb, hml, hown, hts⟩ (m_X10_isn l dC dI ca (fun z : Heap => z = s.heap) a0 1 30 h) (cwS 3 hts gX10_areSteps_X10_is rfl rfl rfl (by decide +kernel) ⟨Nat.le_of_ble_eq_true rfl, Nat.le_of_ble_eq_true rfl⟩) rfl hK hN hX zw_nest_ok rfl hl.1 rfl (Nat.le_of_ble_eq_true rfl) dX10_areSteps_4 ⟨Nat.le_of_ble_eq_true rfl, Nat.le_of_ble_eq_true rfl⟩ hS (fun _ h => h.elim) (fun H locs hB1 oq1 hz1 hS => ?_)
  have hB : B H := by rw [hB1]; exact hB
  refine W.widen (k := 0) (n := 0) (Nat.le_of_ble_eq_true rfl) (Nat.le_of_ble_eq_true rfl) ?_
  exact W.zret (v := 0) (ty := .boolean) hx hb hr (by decide) (fun t ht hW => ⟨⟨0, (), rfl, rfl, z_to (B := (fun H => B H)) ht hB⟩, hS.F ht⟩) hS.2.2 dX10_areSteps_7
set_option maxHeartbeats 4000000 in
set_option maxRecDepth 100000 in
theorem m_X10_thrown (l : Launch) (dC : Nat → ClassId) (dI : Nat → Nat → Nat) (ca : Nat → ClassId) (mo sz : Nat) (ad : Nat → Nat) (hI : z_I yd ad) (hm : ∀ i, yd.1 i < 200 → ad i ≠ mo) (th : Int32) (sm : Int64) : Met l yX10_thrown wsX10_thrown ({ frames := 0, cells := 0, slots := 0, locals := 0 }) (z_Py (dC, dI) vwCl (yt ca) zw_nest [.ref mo] (fun H => H.size = sz ∧ yMo dC dI mo th (ad 0) sm H ∧ yW dC dI ca ad (yM 0) H)) (z_Qi th (fun H => yMo dC dI mo th (ad 0) sm H ∧ yW dC dI ca ad (yM 0) H) (yA mo ad sz)) 0 0 (yA mo ad sz) := by
  refine Met.ofW (cc := cX10_thrown) (maxL := 1) (ret := (some .int)) (by decide) rfl ?_
  intro p e s m args below meth c s₁ B9 hml hv
  obtain ⟨rfl, ⟨hz, hMo, hH⟩, hK, hN, hX⟩ := hv
  have hx := B9.exec
  have hb := B9.bytes
  have hr := B9.returns
  have hts := atoms_spec (ws := wsX10_thrown) B9.pre
  have hown : s.vm.findClass RX10 = some m.cls := findClass_of_methodNamed B9.named
  have hlocks := B9.notSynchronized
  have hS : va_S (yA mo ad sz) s.heap s.heap [] := va_S.rf
  have hba : ∀ i, yd.1 i < 200 → ad i < sz := fun i hi => by have b0 := hH.lt hi; omega
  have hbm : mo < sz := by have b0 := va_at.lt hMo; exact hz ▸ b0
  have hAs : ∀ q, s.heap.size ≤ q → (yA mo ad sz) q := fun q h => Or.inr (Or.inr (hz ▸ h))
  have hinX10 : ∀ w ∈ u_ws RX10 TX10 3, w ∈ wsX10_thrown := by decide +kernel
  have hl := lv_entry ([.ref mo]) (n := 1) (Nat.le_of_ble_eq_true rfl)
  rw [lg_entry_eq]
  generalize (lg_sl ([.ref mo]) ++ List.replicate (1 - (lg_sl ([.ref mo])).length) Slot.unset).toArray = ls at hl ⊢
  have hl : lv_has ls 1 [(0, .ref mo)] := hl
  refine lv_aload_n hx hb dX10_thrown_0 rfl (lv_at hl 0 rfl) ?_
  refine yo_get (D := (dC, dI)) (cl := vwCl) (C := RX10) (T := TX10) (N := 3) (ci := 10) (v := .int th) hx hb hts hinX10 hown hK hMo rfl 0 (by decide) (hts (.fieldLink RX10 16 "SteamfieldModel" "thrown" "I") (by decide +kernel)) (fun _ h9 => h9) rfl dX10_thrown_1 ?_
  refine W.widen (k := 0) (n := 0) (Nat.le_of_ble_eq_true rfl) (Nat.le_of_ble_eq_true rfl) ?_
  exact W.iret (v := th) hx hb hr (fun t ht hW => ⟨⟨th, (), rfl, rfl, z_to (B := (fun H => yMo dC dI mo th (ad 0) sm H ∧ yW dC dI ca ad (yM 0) H)) ht ⟨hMo, hH⟩⟩, hS.F ht⟩) hS.2.2 dX10_thrown_4
set_option maxHeartbeats 4000000 in
set_option maxRecDepth 100000 in
theorem m_X10_refuse (l : Launch) (dC : Nat → ClassId) (dI : Nat → Nat → Nat) (ca : Nat → ClassId) (mo sz : Nat) (ad : Nat → Nat) (hI : z_I yd ad) (hm : ∀ i, yd.1 i < 200 → ad i ≠ mo) (th : Int32) (sm : Int64) (a1 : Int32): Met l yX10_refuse wsX10_refuse ({ frames := 0, cells := 0, slots := 0, locals := 0 }) (z_Py (dC, dI) vwCl (yt ca) zw_nest [.ref mo, .int a1] (fun H => H.size = sz ∧ yMo dC dI mo th (ad 0) sm H ∧ yW dC dI ca ad (yM 0) H)) (z_Qi 0 (fun H => yMo dC dI mo a1 (ad 0) sm H ∧ yW dC dI ca ad (yM 0) H) (yA mo ad sz)) 0 0 (yA mo ad sz) := by
  refine Met.ofW (cc := cX10_refuse) (maxL := 2) (ret := (some .int)) (by decide) rfl ?_
  intro p e s m args below meth c s₁ B9 hml hv
  obtain ⟨rfl, ⟨hz, hMo, hH⟩, hK, hN, hX⟩ := hv
  have hx := B9.exec
  have hb := B9.bytes
  have hr := B9.returns
  have hts := atoms_spec (ws := wsX10_refuse) B9.pre
  have hown : s.vm.findClass RX10 = some m.cls := findClass_of_methodNamed B9.named
  have hlocks := B9.notSynchronized
  have hS : va_S (yA mo ad sz) s.heap s.heap [] := va_S.rf
  have hba : ∀ i, yd.1 i < 200 → ad i < sz := fun i hi => by have b0 := hH.lt hi; omega
  have hbm : mo < sz := by have b0 := va_at.lt hMo; exact hz ▸ b0
  have hAs : ∀ q, s.heap.size ≤ q → (yA mo ad sz) q := fun q h => Or.inr (Or.inr (hz ▸ h))
  have hinX10 : ∀ w ∈ u_ws RX10 TX10 3, w ∈ wsX10_refuse := by decide +kernel
  have hl := lv_entry ([.ref mo, .int a1]) (n := 2) (Nat.le_of_ble_eq_true rfl)
  rw [lg_entry_eq]
  generalize (lg_sl ([.ref mo, .int a1]) ++ List.replicate (2 - (lg_sl ([.ref mo, .int a1])).length) Slot.unset).toArray = ls at hl ⊢
  have hl : lv_has ls 2 [(0, .ref mo), (1, .int a1)] := hl
  refine lv_aload_n hx hb dX10_refuse_0 rfl (lv_at hl 0 rfl) ?_
  refine lv_iload_n hx hb dX10_refuse_1 rfl (lv_at hl 1 rfl) ?_
  refine yo_put (D := (dC, dI)) (cl := vwCl) (C := RX10) (T := TX10) (N := 3) (ci := 10) (ty := .int) hx hb hts hinX10 tyX10 tyX10_ok nmX10 hown hK hMo hS (Or.inl rfl) rfl 0 (by decide) (hts (.fieldLink RX10 16 "SteamfieldModel" "thrown" "I") (by decide +kernel)) (fun _ h9 => h9) rfl (by decide +kernel) rfl rfl (show 0 < 3 by decide) dX10_refuse_2 (fun H locs hMo z9 oq hS => ?_)
  have hMo : yMo dC dI mo a1 (ad 0) sm H := hMo
  have hH := hH.kept (fun i hi => oq _ (hm i hi))
  refine lv_iconst (v := 0) hx hb dX10_refuse_5 (by decide) ?_
  refine W.widen (k := 0) (n := 0) (Nat.le_of_ble_eq_true rfl) (Nat.le_of_ble_eq_true rfl) ?_
  exact W.iret (v := 0) hx hb hr (fun t ht hW => ⟨⟨0, (), rfl, rfl, z_to (B := (fun H => yMo dC dI mo a1 (ad 0) sm H ∧ yW dC dI ca ad (yM 0) H)) ht ⟨hMo, hH⟩⟩, hS.F ht⟩) hS.2.2 dX10_refuse_6
set_option maxHeartbeats 4000000 in
set_option maxRecDepth 100000 in
theorem m_X10_isBlock (l : Launch) (dC : Nat → ClassId) (dI : Nat → Nat → Nat) (ca : Nat → ClassId) (mo sz : Nat) (ad : Nat → Nat) (hI : z_I yd ad) (hm : ∀ i, yd.1 i < 200 → ad i ≠ mo) (th : Int32) (sm : Int64) (a1 : Int32): Met l yX10_isBlock wsX10_isBlock ({ frames := 1, cells := 0, slots := 0, locals := 22 }) (z_Py (dC, dI) vwCl (yt ca) zw_nest [.ref mo, .int a1] (fun H => H.size = sz ∧ yMo dC dI mo th (ad 0) sm H ∧ yW dC dI ca ad (yM 0) H)) (z_Qi 0 (fun H => yMo dC dI mo th (ad 0) sm H ∧ yW dC dI ca ad (yM 0) H) (yA mo ad sz)) 0 0 (yA mo ad sz) := by
  refine Met.ofW (cc := cX10_isBlock) (maxL := 2) (ret := (some .boolean)) (by decide) rfl ?_
  intro p e s m args below meth c s₁ B9 hml hv
  obtain ⟨rfl, ⟨hz, hMo, hH⟩, hK, hN, hX⟩ := hv
  have hx := B9.exec
  have hb := B9.bytes
  have hr := B9.returns
  have hts := atoms_spec (ws := wsX10_isBlock) B9.pre
  have hown : s.vm.findClass RX10 = some m.cls := findClass_of_methodNamed B9.named
  have hlocks := B9.notSynchronized
  have hS : va_S (yA mo ad sz) s.heap s.heap [] := va_S.rf
  have hba : ∀ i, yd.1 i < 200 → ad i < sz := fun i hi => by have b0 := hH.lt hi; omega
  have hbm : mo < sz := by have b0 := va_at.lt hMo; exact hz ▸ b0
  have hAs : ∀ q, s.heap.size ≤ q → (yA mo ad sz) q := fun q h => Or.inr (Or.inr (hz ▸ h))
  have hinX10 : ∀ w ∈ u_ws RX10 TX10 3, w ∈ wsX10_isBlock := by decide +kernel
  have hinX9 : ∀ w ∈ u_ws RX9 TX9 24, w ∈ wsX10_isBlock := by decide +kernel
  have hl := lv_entry ([.ref mo, .int a1]) (n := 2) (Nat.le_of_ble_eq_true rfl)
  rw [lg_entry_eq]
  generalize (lg_sl ([.ref mo, .int a1]) ++ List.replicate (2 - (lg_sl ([.ref mo, .int a1])).length) Slot.unset).toArray = ls at hl ⊢
  have hl : lv_has ls 2 [(0, .ref mo), (1, .int a1)] := hl
  refine lv_iload_n hx hb dX10_isBlock_0 rfl (lv_at hl 1 rfl) ?_
  refine lv_iconst (v := 0) hx hb dX10_isBlock_1 (by decide) ?_
  refine lv_aload_n hx hb dX10_isBlock_2 rfl (lv_at hl 0 rfl) ?_
  refine yo_get (D := (dC, dI)) (cl := vwCl) (C := RX10) (T := TX10) (N := 3) (ci := 10) (v := .ref (ad 0)) hx hb hts hinX10 hown hK hMo rfl 1 (by decide) (hts (.fieldLink RX10 10 "SteamfieldModel" "field" "LSteamfieldModel$Field;") (by decide +kernel)) (fun _ h9 => h9) rfl dX10_isBlock_3 ?_
  refine z_giN (D := (dC, dI)) (cl := vwCl) (C := RX9) (T := TX9) (N := 24) (ci := 9) (k := 4) hx hb hts hinX9 hown hK hH (i := 0) yk_0 (by decide) rfl (by decide) rfl (hN (.fieldLinkNest RX10 20 "SteamfieldModel$Field" "manyBlocks" "I" "SteamfieldModel") (by decide +kernel)) (fun _ h9 => h9) dX10_isBlock_6 ?_
  refine y_num (b := 0) rfl ?_
  refine lv_iconst (v := 1) hx hb dX10_isBlock_9 (by decide) ?_
  refine lv_isub hx hb dX10_isBlock_10 ?_
  refine y_num (b := (-1)) (by decide) ?_
  refine y_cSi (D := (dC, dI)) (cl := vwCl) (tys := yt ca) (nw := zw_nest) (As := [.int a1, .int 0, .int (-1)]) (rest := []) ⟨hx, hb, hml, hown, hts⟩ (m_X10_isn l dC dI ca (fun z : Heap => z = s.heap) a1 0 (-1) (y_none a1)) (cwS 3 hts gX10_isBlock_X10_is rfl rfl rfl (by decide +kernel) ⟨Nat.le_of_ble_eq_true rfl, Nat.le_of_ble_eq_true rfl⟩) rfl hK hN hX zw_nest_ok rfl hl.1 rfl (Nat.le_of_ble_eq_true rfl) dX10_isBlock_11 ⟨Nat.le_of_ble_eq_true rfl, Nat.le_of_ble_eq_true rfl⟩ hS (fun _ h => h.elim) (fun H locs hB1 oq1 hz1 hS => ?_)
  have hH : z_H (dC, dI) vwCl yf ca yd ad (yM 0) H := by rw [hB1]; exact hH
  have hMo : yMo dC dI mo th (ad 0) sm H := by rw [hB1]; exact hMo
  refine W.widen (k := 0) (n := 0) (Nat.le_of_ble_eq_true rfl) (Nat.le_of_ble_eq_true rfl) ?_
  exact W.zret (v := 0) (ty := .boolean) hx hb hr (by decide) (fun t ht hW => ⟨⟨0, (), rfl, rfl, z_to (B := (fun H => yMo dC dI mo th (ad 0) sm H ∧ yW dC dI ca ad (yM 0) H)) ht ⟨hMo, hH⟩⟩, hS.F ht⟩) hS.2.2 dX10_isBlock_14
set_option maxHeartbeats 4000000 in
set_option maxRecDepth 100000 in
theorem m_X10_isFace (l : Launch) (dC : Nat → ClassId) (dI : Nat → Nat → Nat) (ca : Nat → ClassId) (mo sz : Nat) (ad : Nat → Nat) (hI : z_I yd ad) (hm : ∀ i, yd.1 i < 200 → ad i ≠ mo) (th : Int32) (sm : Int64) (a1 : Int32): Met l yX10_isFace wsX10_isFace ({ frames := 1, cells := 0, slots := 0, locals := 22 }) (z_Py (dC, dI) vwCl (yt ca) zw_nest [.ref mo, .int a1] (fun H => H.size = sz ∧ yMo dC dI mo th (ad 0) sm H ∧ yW dC dI ca ad (yM 0) H)) (z_Qi 0 (fun H => yMo dC dI mo th (ad 0) sm H ∧ yW dC dI ca ad (yM 0) H) (yA mo ad sz)) 0 0 (yA mo ad sz) := by
  refine Met.ofW (cc := cX10_isFace) (maxL := 2) (ret := (some .boolean)) (by decide) rfl ?_
  intro p e s m args below meth c s₁ B9 hml hv
  obtain ⟨rfl, ⟨hz, hMo, hH⟩, hK, hN, hX⟩ := hv
  have hx := B9.exec
  have hb := B9.bytes
  have hr := B9.returns
  have hts := atoms_spec (ws := wsX10_isFace) B9.pre
  have hown : s.vm.findClass RX10 = some m.cls := findClass_of_methodNamed B9.named
  have hlocks := B9.notSynchronized
  have hS : va_S (yA mo ad sz) s.heap s.heap [] := va_S.rf
  have hba : ∀ i, yd.1 i < 200 → ad i < sz := fun i hi => by have b0 := hH.lt hi; omega
  have hbm : mo < sz := by have b0 := va_at.lt hMo; exact hz ▸ b0
  have hAs : ∀ q, s.heap.size ≤ q → (yA mo ad sz) q := fun q h => Or.inr (Or.inr (hz ▸ h))
  have hinX10 : ∀ w ∈ u_ws RX10 TX10 3, w ∈ wsX10_isFace := by decide +kernel
  have hinX9 : ∀ w ∈ u_ws RX9 TX9 24, w ∈ wsX10_isFace := by decide +kernel
  have hl := lv_entry ([.ref mo, .int a1]) (n := 2) (Nat.le_of_ble_eq_true rfl)
  rw [lg_entry_eq]
  generalize (lg_sl ([.ref mo, .int a1]) ++ List.replicate (2 - (lg_sl ([.ref mo, .int a1])).length) Slot.unset).toArray = ls at hl ⊢
  have hl : lv_has ls 2 [(0, .ref mo), (1, .int a1)] := hl
  refine lv_iload_n hx hb dX10_isFace_0 rfl (lv_at hl 1 rfl) ?_
  refine lv_iconst (v := 0) hx hb dX10_isFace_1 (by decide) ?_
  refine lv_aload_n hx hb dX10_isFace_2 rfl (lv_at hl 0 rfl) ?_
  refine yo_get (D := (dC, dI)) (cl := vwCl) (C := RX10) (T := TX10) (N := 3) (ci := 10) (v := .ref (ad 0)) hx hb hts hinX10 hown hK hMo rfl 1 (by decide) (hts (.fieldLink RX10 10 "SteamfieldModel" "field" "LSteamfieldModel$Field;") (by decide +kernel)) (fun _ h9 => h9) rfl dX10_isFace_3 ?_
  refine z_giN (D := (dC, dI)) (cl := vwCl) (C := RX9) (T := TX9) (N := 24) (ci := 9) (k := 5) hx hb hts hinX9 hown hK hH (i := 0) yk_0 (by decide) rfl (by decide) rfl (hN (.fieldLinkNest RX10 27 "SteamfieldModel$Field" "manyFaces" "I" "SteamfieldModel") (by decide +kernel)) (fun _ h9 => h9) dX10_isFace_6 ?_
  refine y_num (b := 0) rfl ?_
  refine lv_iconst (v := 1) hx hb dX10_isFace_9 (by decide) ?_
  refine lv_isub hx hb dX10_isFace_10 ?_
  refine y_num (b := (-1)) (by decide) ?_
  refine y_cSi (D := (dC, dI)) (cl := vwCl) (tys := yt ca) (nw := zw_nest) (As := [.int a1, .int 0, .int (-1)]) (rest := []) ⟨hx, hb, hml, hown, hts⟩ (m_X10_isn l dC dI ca (fun z : Heap => z = s.heap) a1 0 (-1) (y_none a1)) (cwS 3 hts gX10_isFace_X10_is rfl rfl rfl (by decide +kernel) ⟨Nat.le_of_ble_eq_true rfl, Nat.le_of_ble_eq_true rfl⟩) rfl hK hN hX zw_nest_ok rfl hl.1 rfl (Nat.le_of_ble_eq_true rfl) dX10_isFace_11 ⟨Nat.le_of_ble_eq_true rfl, Nat.le_of_ble_eq_true rfl⟩ hS (fun _ h => h.elim) (fun H locs hB1 oq1 hz1 hS => ?_)
  have hH : z_H (dC, dI) vwCl yf ca yd ad (yM 0) H := by rw [hB1]; exact hH
  have hMo : yMo dC dI mo th (ad 0) sm H := by rw [hB1]; exact hMo
  refine W.widen (k := 0) (n := 0) (Nat.le_of_ble_eq_true rfl) (Nat.le_of_ble_eq_true rfl) ?_
  exact W.zret (v := 0) (ty := .boolean) hx hb hr (by decide) (fun t ht hW => ⟨⟨0, (), rfl, rfl, z_to (B := (fun H => yMo dC dI mo th (ad 0) sm H ∧ yW dC dI ca ad (yM 0) H)) ht ⟨hMo, hH⟩⟩, hS.F ht⟩) hS.2.2 dX10_isFace_14
set_option maxHeartbeats 4000000 in
set_option maxRecDepth 100000 in
theorem m_X10_isWell (l : Launch) (dC : Nat → ClassId) (dI : Nat → Nat → Nat) (ca : Nat → ClassId) (mo sz : Nat) (ad : Nat → Nat) (hI : z_I yd ad) (hm : ∀ i, yd.1 i < 200 → ad i ≠ mo) (th : Int32) (sm : Int64) (a1 : Int32): Met l yX10_isWell wsX10_isWell ({ frames := 1, cells := 0, slots := 0, locals := 22 }) (z_Py (dC, dI) vwCl (yt ca) zw_nest [.ref mo, .int a1] (fun H => H.size = sz ∧ yMo dC dI mo th (ad 0) sm H ∧ yW dC dI ca ad (yM 0) H)) (z_Qi 0 (fun H => yMo dC dI mo th (ad 0) sm H ∧ yW dC dI ca ad (yM 0) H) (yA mo ad sz)) 0 0 (yA mo ad sz) := by
  refine Met.ofW (cc := cX10_isWell) (maxL := 2) (ret := (some .boolean)) (by decide) rfl ?_
  intro p e s m args below meth c s₁ B9 hml hv
  obtain ⟨rfl, ⟨hz, hMo, hH⟩, hK, hN, hX⟩ := hv
  have hx := B9.exec
  have hb := B9.bytes
  have hr := B9.returns
  have hts := atoms_spec (ws := wsX10_isWell) B9.pre
  have hown : s.vm.findClass RX10 = some m.cls := findClass_of_methodNamed B9.named
  have hlocks := B9.notSynchronized
  have hS : va_S (yA mo ad sz) s.heap s.heap [] := va_S.rf
  have hba : ∀ i, yd.1 i < 200 → ad i < sz := fun i hi => by have b0 := hH.lt hi; omega
  have hbm : mo < sz := by have b0 := va_at.lt hMo; exact hz ▸ b0
  have hAs : ∀ q, s.heap.size ≤ q → (yA mo ad sz) q := fun q h => Or.inr (Or.inr (hz ▸ h))
  have hinX10 : ∀ w ∈ u_ws RX10 TX10 3, w ∈ wsX10_isWell := by decide +kernel
  have hinX9 : ∀ w ∈ u_ws RX9 TX9 24, w ∈ wsX10_isWell := by decide +kernel
  have hl := lv_entry ([.ref mo, .int a1]) (n := 2) (Nat.le_of_ble_eq_true rfl)
  rw [lg_entry_eq]
  generalize (lg_sl ([.ref mo, .int a1]) ++ List.replicate (2 - (lg_sl ([.ref mo, .int a1])).length) Slot.unset).toArray = ls at hl ⊢
  have hl : lv_has ls 2 [(0, .ref mo), (1, .int a1)] := hl
  refine lv_iload_n hx hb dX10_isWell_0 rfl (lv_at hl 1 rfl) ?_
  refine lv_iconst (v := 0) hx hb dX10_isWell_1 (by decide) ?_
  refine lv_aload_n hx hb dX10_isWell_2 rfl (lv_at hl 0 rfl) ?_
  refine yo_get (D := (dC, dI)) (cl := vwCl) (C := RX10) (T := TX10) (N := 3) (ci := 10) (v := .ref (ad 0)) hx hb hts hinX10 hown hK hMo rfl 1 (by decide) (hts (.fieldLink RX10 10 "SteamfieldModel" "field" "LSteamfieldModel$Field;") (by decide +kernel)) (fun _ h9 => h9) rfl dX10_isWell_3 ?_
  refine z_giN (D := (dC, dI)) (cl := vwCl) (C := RX9) (T := TX9) (N := 24) (ci := 9) (k := 6) hx hb hts hinX9 hown hK hH (i := 0) yk_0 (by decide) rfl (by decide) rfl (hN (.fieldLinkNest RX10 30 "SteamfieldModel$Field" "manyWells" "I" "SteamfieldModel") (by decide +kernel)) (fun _ h9 => h9) dX10_isWell_6 ?_
  refine y_num (b := 0) rfl ?_
  refine lv_iconst (v := 1) hx hb dX10_isWell_9 (by decide) ?_
  refine lv_isub hx hb dX10_isWell_10 ?_
  refine y_num (b := (-1)) (by decide) ?_
  refine y_cSi (D := (dC, dI)) (cl := vwCl) (tys := yt ca) (nw := zw_nest) (As := [.int a1, .int 0, .int (-1)]) (rest := []) ⟨hx, hb, hml, hown, hts⟩ (m_X10_isn l dC dI ca (fun z : Heap => z = s.heap) a1 0 (-1) (y_none a1)) (cwS 3 hts gX10_isWell_X10_is rfl rfl rfl (by decide +kernel) ⟨Nat.le_of_ble_eq_true rfl, Nat.le_of_ble_eq_true rfl⟩) rfl hK hN hX zw_nest_ok rfl hl.1 rfl (Nat.le_of_ble_eq_true rfl) dX10_isWell_11 ⟨Nat.le_of_ble_eq_true rfl, Nat.le_of_ble_eq_true rfl⟩ hS (fun _ h => h.elim) (fun H locs hB1 oq1 hz1 hS => ?_)
  have hH : z_H (dC, dI) vwCl yf ca yd ad (yM 0) H := by rw [hB1]; exact hH
  have hMo : yMo dC dI mo th (ad 0) sm H := by rw [hB1]; exact hMo
  refine W.widen (k := 0) (n := 0) (Nat.le_of_ble_eq_true rfl) (Nat.le_of_ble_eq_true rfl) ?_
  exact W.zret (v := 0) (ty := .boolean) hx hb hr (by decide) (fun t ht hW => ⟨⟨0, (), rfl, rfl, z_to (B := (fun H => yMo dC dI mo th (ad 0) sm H ∧ yW dC dI ca ad (yM 0) H)) ht ⟨hMo, hH⟩⟩, hS.F ht⟩) hS.2.2 dX10_isWell_14
set_option maxHeartbeats 4000000 in
set_option maxRecDepth 100000 in
theorem m_X10_isSpring (l : Launch) (dC : Nat → ClassId) (dI : Nat → Nat → Nat) (ca : Nat → ClassId) (mo sz : Nat) (ad : Nat → Nat) (hI : z_I yd ad) (hm : ∀ i, yd.1 i < 200 → ad i ≠ mo) (th : Int32) (sm : Int64) (a1 : Int32): Met l yX10_isSpring wsX10_isSpring ({ frames := 1, cells := 0, slots := 0, locals := 22 }) (z_Py (dC, dI) vwCl (yt ca) zw_nest [.ref mo, .int a1] (fun H => H.size = sz ∧ yMo dC dI mo th (ad 0) sm H ∧ yW dC dI ca ad (yM 0) H)) (z_Qi 0 (fun H => yMo dC dI mo th (ad 0) sm H ∧ yW dC dI ca ad (yM 0) H) (yA mo ad sz)) 0 0 (yA mo ad sz) := by
  refine Met.ofW (cc := cX10_isSpring) (maxL := 2) (ret := (some .boolean)) (by decide) rfl ?_
  intro p e s m args below meth c s₁ B9 hml hv
  obtain ⟨rfl, ⟨hz, hMo, hH⟩, hK, hN, hX⟩ := hv
  have hx := B9.exec
  have hb := B9.bytes
  have hr := B9.returns
  have hts := atoms_spec (ws := wsX10_isSpring) B9.pre
  have hown : s.vm.findClass RX10 = some m.cls := findClass_of_methodNamed B9.named
  have hlocks := B9.notSynchronized
  have hS : va_S (yA mo ad sz) s.heap s.heap [] := va_S.rf
  have hba : ∀ i, yd.1 i < 200 → ad i < sz := fun i hi => by have b0 := hH.lt hi; omega
  have hbm : mo < sz := by have b0 := va_at.lt hMo; exact hz ▸ b0
  have hAs : ∀ q, s.heap.size ≤ q → (yA mo ad sz) q := fun q h => Or.inr (Or.inr (hz ▸ h))
  have hinX10 : ∀ w ∈ u_ws RX10 TX10 3, w ∈ wsX10_isSpring := by decide +kernel
  have hinX9 : ∀ w ∈ u_ws RX9 TX9 24, w ∈ wsX10_isSpring := by decide +kernel
  have hl := lv_entry ([.ref mo, .int a1]) (n := 2) (Nat.le_of_ble_eq_true rfl)
  rw [lg_entry_eq]
  generalize (lg_sl ([.ref mo, .int a1]) ++ List.replicate (2 - (lg_sl ([.ref mo, .int a1])).length) Slot.unset).toArray = ls at hl ⊢
  have hl : lv_has ls 2 [(0, .ref mo), (1, .int a1)] := hl
  refine lv_iload_n hx hb dX10_isSpring_0 rfl (lv_at hl 1 rfl) ?_
  refine lv_iconst (v := 0) hx hb dX10_isSpring_1 (by decide) ?_
  refine lv_aload_n hx hb dX10_isSpring_2 rfl (lv_at hl 0 rfl) ?_
  refine yo_get (D := (dC, dI)) (cl := vwCl) (C := RX10) (T := TX10) (N := 3) (ci := 10) (v := .ref (ad 0)) hx hb hts hinX10 hown hK hMo rfl 1 (by decide) (hts (.fieldLink RX10 10 "SteamfieldModel" "field" "LSteamfieldModel$Field;") (by decide +kernel)) (fun _ h9 => h9) rfl dX10_isSpring_3 ?_
  refine z_giN (D := (dC, dI)) (cl := vwCl) (C := RX9) (T := TX9) (N := 24) (ci := 9) (k := 7) hx hb hts hinX9 hown hK hH (i := 0) yk_0 (by decide) rfl (by decide) rfl (hN (.fieldLinkNest RX10 33 "SteamfieldModel$Field" "manySprings" "I" "SteamfieldModel") (by decide +kernel)) (fun _ h9 => h9) dX10_isSpring_6 ?_
  refine y_num (b := 0) rfl ?_
  refine lv_iconst (v := 1) hx hb dX10_isSpring_9 (by decide) ?_
  refine lv_isub hx hb dX10_isSpring_10 ?_
  refine y_num (b := (-1)) (by decide) ?_
  refine y_cSi (D := (dC, dI)) (cl := vwCl) (tys := yt ca) (nw := zw_nest) (As := [.int a1, .int 0, .int (-1)]) (rest := []) ⟨hx, hb, hml, hown, hts⟩ (m_X10_isn l dC dI ca (fun z : Heap => z = s.heap) a1 0 (-1) (y_none a1)) (cwS 3 hts gX10_isSpring_X10_is rfl rfl rfl (by decide +kernel) ⟨Nat.le_of_ble_eq_true rfl, Nat.le_of_ble_eq_true rfl⟩) rfl hK hN hX zw_nest_ok rfl hl.1 rfl (Nat.le_of_ble_eq_true rfl) dX10_isSpring_11 ⟨Nat.le_of_ble_eq_true rfl, Nat.le_of_ble_eq_true rfl⟩ hS (fun _ h => h.elim) (fun H locs hB1 oq1 hz1 hS => ?_)
  have hH : z_H (dC, dI) vwCl yf ca yd ad (yM 0) H := by rw [hB1]; exact hH
  have hMo : yMo dC dI mo th (ad 0) sm H := by rw [hB1]; exact hMo
  refine W.widen (k := 0) (n := 0) (Nat.le_of_ble_eq_true rfl) (Nat.le_of_ble_eq_true rfl) ?_
  exact W.zret (v := 0) (ty := .boolean) hx hb hr (by decide) (fun t ht hW => ⟨⟨0, (), rfl, rfl, z_to (B := (fun H => yMo dC dI mo th (ad 0) sm H ∧ yW dC dI ca ad (yM 0) H)) ht ⟨hMo, hH⟩⟩, hS.F ht⟩) hS.2.2 dX10_isSpring_14
set_option maxHeartbeats 4000000 in
set_option maxRecDepth 100000 in
theorem m_X10_face (l : Launch) (dC : Nat → ClassId) (dI : Nat → Nat → Nat) (ca : Nat → ClassId) (mo sz : Nat) (ad : Nat → Nat) (hI : z_I yd ad) (hm : ∀ i, yd.1 i < 200 → ad i ≠ mo) (th : Int32) (sm : Int64) (a1 a2 a3 : Int32) : Met l yX10_face wsX10_face ({ frames := 2, cells := 0, slots := 0, locals := 43 }) (z_Py (dC, dI) vwCl (yt ca) zw_nest [.ref mo, .int a1, .int a2, .int a3] (fun H => H.size = sz ∧ yMo dC dI mo th (ad 0) sm H ∧ yW dC dI ca ad (yM 0) H)) (z_Qi 0 (fun H => yMo dC dI mo 1 (ad 0) sm H ∧ yW dC dI ca ad (yM 0) H) (yA mo ad sz)) 0 0 (yA mo ad sz) := by
  refine Met.ofW (cc := cX10_face) (maxL := 5) (ret := (some .int)) (by decide) rfl ?_
  intro p e s m args below meth c s₁ B9 hml hv
  obtain ⟨rfl, ⟨hz, hMo, hH⟩, hK, hN, hX⟩ := hv
  have hx := B9.exec
  have hb := B9.bytes
  have hr := B9.returns
  have hts := atoms_spec (ws := wsX10_face) B9.pre
  have hown : s.vm.findClass RX10 = some m.cls := findClass_of_methodNamed B9.named
  have hlocks := B9.notSynchronized
  have hS : va_S (yA mo ad sz) s.heap s.heap [] := va_S.rf
  have hba : ∀ i, yd.1 i < 200 → ad i < sz := fun i hi => by have b0 := hH.lt hi; omega
  have hbm : mo < sz := by have b0 := va_at.lt hMo; exact hz ▸ b0
  have hAs : ∀ q, s.heap.size ≤ q → (yA mo ad sz) q := fun q h => Or.inr (Or.inr (hz ▸ h))
  have hinX10 : ∀ w ∈ u_ws RX10 TX10 3, w ∈ wsX10_face := by decide +kernel
  have hl := lv_entry ([.ref mo, .int a1, .int a2, .int a3]) (n := 5) (Nat.le_of_ble_eq_true rfl)
  rw [lg_entry_eq]
  generalize (lg_sl ([.ref mo, .int a1, .int a2, .int a3]) ++ List.replicate (5 - (lg_sl ([.ref mo, .int a1, .int a2, .int a3])).length) Slot.unset).toArray = ls at hl ⊢
  have hl : lv_has ls 5 [(0, .ref mo), (1, .int a1), (2, .int a2), (3, .int a3)] := hl
  refine lv_aload_n hx hb dX10_face_0 rfl (lv_at hl 0 rfl) ?_
  refine lv_iconst (v := 0) hx hb dX10_face_1 (by decide) ?_
  refine yo_put (D := (dC, dI)) (cl := vwCl) (C := RX10) (T := TX10) (N := 3) (ci := 10) (ty := .int) hx hb hts hinX10 tyX10 tyX10_ok nmX10 hown hK hMo hS (Or.inl rfl) rfl 0 (by decide) (hts (.fieldLink RX10 16 "SteamfieldModel" "thrown" "I") (by decide +kernel)) (fun _ h9 => h9) rfl (by decide +kernel) rfl rfl (show 0 < 3 by decide) dX10_face_2 (fun H locs hMo z9 oq hS => ?_)
  have hMo : yMo dC dI mo 0 (ad 0) sm H := hMo
  have hH := hH.kept (fun i hi => oq _ (hm i hi))
  refine lv_aload_n hx hb dX10_face_5 rfl (lv_at hl 0 rfl) ?_
  refine lv_iload_n hx hb dX10_face_6 rfl (lv_at hl 1 rfl) ?_
  refine y_cVi (D := (dC, dI)) (cl := vwCl) (tys := yt ca) (nw := zw_nest) (C := RX10) (As := [.int a1]) (rest := []) ⟨hx, hb, hml, hown, hts⟩ (m_X10_isBlock l dC dI ca mo H.size ad hI hm 0 sm a1 ) (cwV 1 hts gX10_face_X10_isBlock rfl rfl rfl (by decide +kernel) ⟨Nat.le_of_ble_eq_true rfl, Nat.le_of_ble_eq_true rfl⟩) (va_recv hK (y_one hMo) (ci := 10) rfl (q0 := 0) rfl) ⟨rfl, hMo, hH⟩ hK hN hX zw_nest_ok rfl hl.1 rfl (Nat.le_of_ble_eq_true rfl) dX10_face_7 ⟨Nat.le_of_ble_eq_true rfl, Nat.le_of_ble_eq_true rfl⟩ hS (yA_mono (by have b0 := hS.1; omega)) (fun H locs hB1 oq1 hz1 hS => ?_)
  obtain ⟨hMo, hH⟩ := hB1
  refine lv_if_eq (tgt := 21) hx hb dX10_face_10 (by decide) (fun _ => ?_) (fun c9 => absurd c9 (by decide))
  refine lv_aload_n hx hb dX10_face_21 rfl (lv_at hl 0 rfl) ?_
  refine lv_iconst (v := 1) hx hb dX10_face_22 (by decide) ?_
  refine y_cVi (D := (dC, dI)) (cl := vwCl) (tys := yt ca) (nw := zw_nest) (C := RX10) (As := [.int 1]) (rest := []) ⟨hx, hb, hml, hown, hts⟩ (m_X10_refuse l dC dI ca mo H.size ad hI hm 0 sm 1 ) (cwV 1 hts gX10_face_X10_refuse rfl rfl rfl (by decide +kernel) ⟨Nat.le_of_ble_eq_true rfl, Nat.le_of_ble_eq_true rfl⟩) (va_recv hK (y_one hMo) (ci := 10) rfl (q0 := 0) rfl) ⟨rfl, hMo, hH⟩ hK hN hX zw_nest_ok rfl hl.1 rfl (Nat.le_of_ble_eq_true rfl) dX10_face_23 ⟨Nat.le_of_ble_eq_true rfl, Nat.le_of_ble_eq_true rfl⟩ hS (yA_mono (by have b0 := hS.1; omega)) (fun H locs hB1 oq1 hz1 hS => ?_)
  obtain ⟨hMo, hH⟩ := hB1
  refine W.widen (k := 0) (n := 0) (Nat.le_of_ble_eq_true rfl) (Nat.le_of_ble_eq_true rfl) ?_
  exact W.iret (v := 0) hx hb hr (fun t ht hW => ⟨⟨0, (), rfl, rfl, z_to (B := (fun H => yMo dC dI mo 1 (ad 0) sm H ∧ yW dC dI ca ad (yM 0) H)) ht ⟨hMo, hH⟩⟩, hS.F ht⟩) hS.2.2 dX10_face_26
set_option maxHeartbeats 4000000 in
set_option maxRecDepth 100000 in
theorem m_X10_well (l : Launch) (dC : Nat → ClassId) (dI : Nat → Nat → Nat) (ca : Nat → ClassId) (mo sz : Nat) (ad : Nat → Nat) (hI : z_I yd ad) (hm : ∀ i, yd.1 i < 200 → ad i ≠ mo) (th : Int32) (sm : Int64) (a1 a2 : Int32) : Met l yX10_well wsX10_well ({ frames := 2, cells := 0, slots := 0, locals := 43 }) (z_Py (dC, dI) vwCl (yt ca) zw_nest [.ref mo, .int a1, .int a2] (fun H => H.size = sz ∧ yMo dC dI mo th (ad 0) sm H ∧ yW dC dI ca ad (yM 0) H)) (z_Qi 0 (fun H => yMo dC dI mo 1 (ad 0) sm H ∧ yW dC dI ca ad (yM 0) H) (yA mo ad sz)) 0 0 (yA mo ad sz) := by
  refine Met.ofW (cc := cX10_well) (maxL := 3) (ret := (some .int)) (by decide) rfl ?_
  intro p e s m args below meth c s₁ B9 hml hv
  obtain ⟨rfl, ⟨hz, hMo, hH⟩, hK, hN, hX⟩ := hv
  have hx := B9.exec
  have hb := B9.bytes
  have hr := B9.returns
  have hts := atoms_spec (ws := wsX10_well) B9.pre
  have hown : s.vm.findClass RX10 = some m.cls := findClass_of_methodNamed B9.named
  have hlocks := B9.notSynchronized
  have hS : va_S (yA mo ad sz) s.heap s.heap [] := va_S.rf
  have hba : ∀ i, yd.1 i < 200 → ad i < sz := fun i hi => by have b0 := hH.lt hi; omega
  have hbm : mo < sz := by have b0 := va_at.lt hMo; exact hz ▸ b0
  have hAs : ∀ q, s.heap.size ≤ q → (yA mo ad sz) q := fun q h => Or.inr (Or.inr (hz ▸ h))
  have hinX10 : ∀ w ∈ u_ws RX10 TX10 3, w ∈ wsX10_well := by decide +kernel
  have hl := lv_entry ([.ref mo, .int a1, .int a2]) (n := 3) (Nat.le_of_ble_eq_true rfl)
  rw [lg_entry_eq]
  generalize (lg_sl ([.ref mo, .int a1, .int a2]) ++ List.replicate (3 - (lg_sl ([.ref mo, .int a1, .int a2])).length) Slot.unset).toArray = ls at hl ⊢
  have hl : lv_has ls 3 [(0, .ref mo), (1, .int a1), (2, .int a2)] := hl
  refine lv_aload_n hx hb dX10_well_0 rfl (lv_at hl 0 rfl) ?_
  refine lv_iconst (v := 0) hx hb dX10_well_1 (by decide) ?_
  refine yo_put (D := (dC, dI)) (cl := vwCl) (C := RX10) (T := TX10) (N := 3) (ci := 10) (ty := .int) hx hb hts hinX10 tyX10 tyX10_ok nmX10 hown hK hMo hS (Or.inl rfl) rfl 0 (by decide) (hts (.fieldLink RX10 16 "SteamfieldModel" "thrown" "I") (by decide +kernel)) (fun _ h9 => h9) rfl (by decide +kernel) rfl rfl (show 0 < 3 by decide) dX10_well_2 (fun H locs hMo z9 oq hS => ?_)
  have hMo : yMo dC dI mo 0 (ad 0) sm H := hMo
  have hH := hH.kept (fun i hi => oq _ (hm i hi))
  refine lv_aload_n hx hb dX10_well_5 rfl (lv_at hl 0 rfl) ?_
  refine lv_iload_n hx hb dX10_well_6 rfl (lv_at hl 1 rfl) ?_
  refine y_cVi (D := (dC, dI)) (cl := vwCl) (tys := yt ca) (nw := zw_nest) (C := RX10) (As := [.int a1]) (rest := []) ⟨hx, hb, hml, hown, hts⟩ (m_X10_isBlock l dC dI ca mo H.size ad hI hm 0 sm a1 ) (cwV 1 hts gX10_well_X10_isBlock rfl rfl rfl (by decide +kernel) ⟨Nat.le_of_ble_eq_true rfl, Nat.le_of_ble_eq_true rfl⟩) (va_recv hK (y_one hMo) (ci := 10) rfl (q0 := 0) rfl) ⟨rfl, hMo, hH⟩ hK hN hX zw_nest_ok rfl hl.1 rfl (Nat.le_of_ble_eq_true rfl) dX10_well_7 ⟨Nat.le_of_ble_eq_true rfl, Nat.le_of_ble_eq_true rfl⟩ hS (yA_mono (by have b0 := hS.1; omega)) (fun H locs hB1 oq1 hz1 hS => ?_)
  obtain ⟨hMo, hH⟩ := hB1
  refine lv_if_ne (tgt := 19) hx hb dX10_well_10 (by decide) (fun c9 => absurd c9 (by decide)) (fun _ => ?_)
  refine lv_aload_n hx hb dX10_well_13 rfl (lv_at hl 0 rfl) ?_
  refine lv_iconst (v := 1) hx hb dX10_well_14 (by decide) ?_
  refine y_cVi (D := (dC, dI)) (cl := vwCl) (tys := yt ca) (nw := zw_nest) (C := RX10) (As := [.int 1]) (rest := []) ⟨hx, hb, hml, hown, hts⟩ (m_X10_refuse l dC dI ca mo H.size ad hI hm 0 sm 1 ) (cwV 1 hts gX10_well_X10_refuse rfl rfl rfl (by decide +kernel) ⟨Nat.le_of_ble_eq_true rfl, Nat.le_of_ble_eq_true rfl⟩) (va_recv hK (y_one hMo) (ci := 10) rfl (q0 := 0) rfl) ⟨rfl, hMo, hH⟩ hK hN hX zw_nest_ok rfl hl.1 rfl (Nat.le_of_ble_eq_true rfl) dX10_well_15 ⟨Nat.le_of_ble_eq_true rfl, Nat.le_of_ble_eq_true rfl⟩ hS (yA_mono (by have b0 := hS.1; omega)) (fun H locs hB1 oq1 hz1 hS => ?_)
  obtain ⟨hMo, hH⟩ := hB1
  refine W.widen (k := 0) (n := 0) (Nat.le_of_ble_eq_true rfl) (Nat.le_of_ble_eq_true rfl) ?_
  exact W.iret (v := 0) hx hb hr (fun t ht hW => ⟨⟨0, (), rfl, rfl, z_to (B := (fun H => yMo dC dI mo 1 (ad 0) sm H ∧ yW dC dI ca ad (yM 0) H)) ht ⟨hMo, hH⟩⟩, hS.F ht⟩) hS.2.2 dX10_well_18
set_option maxHeartbeats 4000000 in
set_option maxRecDepth 100000 in
theorem m_X10_spring (l : Launch) (dC : Nat → ClassId) (dI : Nat → Nat → Nat) (ca : Nat → ClassId) (mo sz : Nat) (ad : Nat → Nat) (hI : z_I yd ad) (hm : ∀ i, yd.1 i < 200 → ad i ≠ mo) (th : Int32) (sm : Int64) (a1 a2 a3 : Int32) : Met l yX10_spring wsX10_spring ({ frames := 2, cells := 0, slots := 0, locals := 43 }) (z_Py (dC, dI) vwCl (yt ca) zw_nest [.ref mo, .int a1, .int a2, .int a3] (fun H => H.size = sz ∧ yMo dC dI mo th (ad 0) sm H ∧ yW dC dI ca ad (yM 0) H)) (z_Qi 0 (fun H => yMo dC dI mo 1 (ad 0) sm H ∧ yW dC dI ca ad (yM 0) H) (yA mo ad sz)) 0 0 (yA mo ad sz) := by
  refine Met.ofW (cc := cX10_spring) (maxL := 5) (ret := (some .int)) (by decide) rfl ?_
  intro p e s m args below meth c s₁ B9 hml hv
  obtain ⟨rfl, ⟨hz, hMo, hH⟩, hK, hN, hX⟩ := hv
  have hx := B9.exec
  have hb := B9.bytes
  have hr := B9.returns
  have hts := atoms_spec (ws := wsX10_spring) B9.pre
  have hown : s.vm.findClass RX10 = some m.cls := findClass_of_methodNamed B9.named
  have hlocks := B9.notSynchronized
  have hS : va_S (yA mo ad sz) s.heap s.heap [] := va_S.rf
  have hba : ∀ i, yd.1 i < 200 → ad i < sz := fun i hi => by have b0 := hH.lt hi; omega
  have hbm : mo < sz := by have b0 := va_at.lt hMo; exact hz ▸ b0
  have hAs : ∀ q, s.heap.size ≤ q → (yA mo ad sz) q := fun q h => Or.inr (Or.inr (hz ▸ h))
  have hinX10 : ∀ w ∈ u_ws RX10 TX10 3, w ∈ wsX10_spring := by decide +kernel
  have hl := lv_entry ([.ref mo, .int a1, .int a2, .int a3]) (n := 5) (Nat.le_of_ble_eq_true rfl)
  rw [lg_entry_eq]
  generalize (lg_sl ([.ref mo, .int a1, .int a2, .int a3]) ++ List.replicate (5 - (lg_sl ([.ref mo, .int a1, .int a2, .int a3])).length) Slot.unset).toArray = ls at hl ⊢
  have hl : lv_has ls 5 [(0, .ref mo), (1, .int a1), (2, .int a2), (3, .int a3)] := hl
  refine lv_aload_n hx hb dX10_spring_0 rfl (lv_at hl 0 rfl) ?_
  refine lv_iconst (v := 0) hx hb dX10_spring_1 (by decide) ?_
  refine yo_put (D := (dC, dI)) (cl := vwCl) (C := RX10) (T := TX10) (N := 3) (ci := 10) (ty := .int) hx hb hts hinX10 tyX10 tyX10_ok nmX10 hown hK hMo hS (Or.inl rfl) rfl 0 (by decide) (hts (.fieldLink RX10 16 "SteamfieldModel" "thrown" "I") (by decide +kernel)) (fun _ h9 => h9) rfl (by decide +kernel) rfl rfl (show 0 < 3 by decide) dX10_spring_2 (fun H locs hMo z9 oq hS => ?_)
  have hMo : yMo dC dI mo 0 (ad 0) sm H := hMo
  have hH := hH.kept (fun i hi => oq _ (hm i hi))
  refine lv_aload_n hx hb dX10_spring_5 rfl (lv_at hl 0 rfl) ?_
  refine lv_iload_n hx hb dX10_spring_6 rfl (lv_at hl 1 rfl) ?_
  refine y_cVi (D := (dC, dI)) (cl := vwCl) (tys := yt ca) (nw := zw_nest) (C := RX10) (As := [.int a1]) (rest := []) ⟨hx, hb, hml, hown, hts⟩ (m_X10_isBlock l dC dI ca mo H.size ad hI hm 0 sm a1 ) (cwV 1 hts gX10_spring_X10_isBlock rfl rfl rfl (by decide +kernel) ⟨Nat.le_of_ble_eq_true rfl, Nat.le_of_ble_eq_true rfl⟩) (va_recv hK (y_one hMo) (ci := 10) rfl (q0 := 0) rfl) ⟨rfl, hMo, hH⟩ hK hN hX zw_nest_ok rfl hl.1 rfl (Nat.le_of_ble_eq_true rfl) dX10_spring_7 ⟨Nat.le_of_ble_eq_true rfl, Nat.le_of_ble_eq_true rfl⟩ hS (yA_mono (by have b0 := hS.1; omega)) (fun H locs hB1 oq1 hz1 hS => ?_)
  obtain ⟨hMo, hH⟩ := hB1
  refine lv_if_ne (tgt := 19) hx hb dX10_spring_10 (by decide) (fun c9 => absurd c9 (by decide)) (fun _ => ?_)
  refine lv_aload_n hx hb dX10_spring_13 rfl (lv_at hl 0 rfl) ?_
  refine lv_iconst (v := 1) hx hb dX10_spring_14 (by decide) ?_
  refine y_cVi (D := (dC, dI)) (cl := vwCl) (tys := yt ca) (nw := zw_nest) (C := RX10) (As := [.int 1]) (rest := []) ⟨hx, hb, hml, hown, hts⟩ (m_X10_refuse l dC dI ca mo H.size ad hI hm 0 sm 1 ) (cwV 1 hts gX10_spring_X10_refuse rfl rfl rfl (by decide +kernel) ⟨Nat.le_of_ble_eq_true rfl, Nat.le_of_ble_eq_true rfl⟩) (va_recv hK (y_one hMo) (ci := 10) rfl (q0 := 0) rfl) ⟨rfl, hMo, hH⟩ hK hN hX zw_nest_ok rfl hl.1 rfl (Nat.le_of_ble_eq_true rfl) dX10_spring_15 ⟨Nat.le_of_ble_eq_true rfl, Nat.le_of_ble_eq_true rfl⟩ hS (yA_mono (by have b0 := hS.1; omega)) (fun H locs hB1 oq1 hz1 hS => ?_)
  obtain ⟨hMo, hH⟩ := hB1
  refine W.widen (k := 0) (n := 0) (Nat.le_of_ble_eq_true rfl) (Nat.le_of_ble_eq_true rfl) ?_
  exact W.iret (v := 0) hx hb hr (fun t ht hW => ⟨⟨0, (), rfl, rfl, z_to (B := (fun H => yMo dC dI mo 1 (ad 0) sm H ∧ yW dC dI ca ad (yM 0) H)) ht ⟨hMo, hH⟩⟩, hS.F ht⟩) hS.2.2 dX10_spring_18
set_option maxHeartbeats 4000000 in
set_option maxRecDepth 100000 in
theorem m_X10_valve (l : Launch) (dC : Nat → ClassId) (dI : Nat → Nat → Nat) (ca : Nat → ClassId) (mo sz : Nat) (ad : Nat → Nat) (hI : z_I yd ad) (hm : ∀ i, yd.1 i < 200 → ad i ≠ mo) (th : Int32) (sm : Int64) (a1 a2 : Int32) : Met l yX10_valve wsX10_valve ({ frames := 2, cells := 0, slots := 0, locals := 43 }) (z_Py (dC, dI) vwCl (yt ca) zw_nest [.ref mo, .int a1, .int a2] (fun H => H.size = sz ∧ yMo dC dI mo th (ad 0) sm H ∧ yW dC dI ca ad (yM 0) H)) (z_Qi 0 (fun H => yMo dC dI mo 1 (ad 0) sm H ∧ yW dC dI ca ad (yM 0) H) (yA mo ad sz)) 0 0 (yA mo ad sz) := by
  refine Met.ofW (cc := cX10_valve) (maxL := 4) (ret := (some .int)) (by decide) rfl ?_
  intro p e s m args below meth c s₁ B9 hml hv
  obtain ⟨rfl, ⟨hz, hMo, hH⟩, hK, hN, hX⟩ := hv
  have hx := B9.exec
  have hb := B9.bytes
  have hr := B9.returns
  have hts := atoms_spec (ws := wsX10_valve) B9.pre
  have hown : s.vm.findClass RX10 = some m.cls := findClass_of_methodNamed B9.named
  have hlocks := B9.notSynchronized
  have hS : va_S (yA mo ad sz) s.heap s.heap [] := va_S.rf
  have hba : ∀ i, yd.1 i < 200 → ad i < sz := fun i hi => by have b0 := hH.lt hi; omega
  have hbm : mo < sz := by have b0 := va_at.lt hMo; exact hz ▸ b0
  have hAs : ∀ q, s.heap.size ≤ q → (yA mo ad sz) q := fun q h => Or.inr (Or.inr (hz ▸ h))
  have hinX10 : ∀ w ∈ u_ws RX10 TX10 3, w ∈ wsX10_valve := by decide +kernel
  have hl := lv_entry ([.ref mo, .int a1, .int a2]) (n := 4) (Nat.le_of_ble_eq_true rfl)
  rw [lg_entry_eq]
  generalize (lg_sl ([.ref mo, .int a1, .int a2]) ++ List.replicate (4 - (lg_sl ([.ref mo, .int a1, .int a2])).length) Slot.unset).toArray = ls at hl ⊢
  have hl : lv_has ls 4 [(0, .ref mo), (1, .int a1), (2, .int a2)] := hl
  refine lv_aload_n hx hb dX10_valve_0 rfl (lv_at hl 0 rfl) ?_
  refine lv_iconst (v := 0) hx hb dX10_valve_1 (by decide) ?_
  refine yo_put (D := (dC, dI)) (cl := vwCl) (C := RX10) (T := TX10) (N := 3) (ci := 10) (ty := .int) hx hb hts hinX10 tyX10 tyX10_ok nmX10 hown hK hMo hS (Or.inl rfl) rfl 0 (by decide) (hts (.fieldLink RX10 16 "SteamfieldModel" "thrown" "I") (by decide +kernel)) (fun _ h9 => h9) rfl (by decide +kernel) rfl rfl (show 0 < 3 by decide) dX10_valve_2 (fun H locs hMo z9 oq hS => ?_)
  have hMo : yMo dC dI mo 0 (ad 0) sm H := hMo
  have hH := hH.kept (fun i hi => oq _ (hm i hi))
  refine lv_aload_n hx hb dX10_valve_5 rfl (lv_at hl 0 rfl) ?_
  refine lv_iload_n hx hb dX10_valve_6 rfl (lv_at hl 1 rfl) ?_
  refine y_cVi (D := (dC, dI)) (cl := vwCl) (tys := yt ca) (nw := zw_nest) (C := RX10) (As := [.int a1]) (rest := []) ⟨hx, hb, hml, hown, hts⟩ (m_X10_isWell l dC dI ca mo H.size ad hI hm 0 sm a1 ) (cwV 1 hts gX10_valve_X10_isWell rfl rfl rfl (by decide +kernel) ⟨Nat.le_of_ble_eq_true rfl, Nat.le_of_ble_eq_true rfl⟩) (va_recv hK (y_one hMo) (ci := 10) rfl (q0 := 0) rfl) ⟨rfl, hMo, hH⟩ hK hN hX zw_nest_ok rfl hl.1 rfl (Nat.le_of_ble_eq_true rfl) dX10_valve_7 ⟨Nat.le_of_ble_eq_true rfl, Nat.le_of_ble_eq_true rfl⟩ hS (yA_mono (by have b0 := hS.1; omega)) (fun H locs hB1 oq1 hz1 hS => ?_)
  obtain ⟨hMo, hH⟩ := hB1
  refine lv_if_ne (tgt := 19) hx hb dX10_valve_10 (by decide) (fun c9 => absurd c9 (by decide)) (fun _ => ?_)
  refine lv_aload_n hx hb dX10_valve_13 rfl (lv_at hl 0 rfl) ?_
  refine lv_iconst (v := 1) hx hb dX10_valve_14 (by decide) ?_
  refine y_cVi (D := (dC, dI)) (cl := vwCl) (tys := yt ca) (nw := zw_nest) (C := RX10) (As := [.int 1]) (rest := []) ⟨hx, hb, hml, hown, hts⟩ (m_X10_refuse l dC dI ca mo H.size ad hI hm 0 sm 1 ) (cwV 1 hts gX10_valve_X10_refuse rfl rfl rfl (by decide +kernel) ⟨Nat.le_of_ble_eq_true rfl, Nat.le_of_ble_eq_true rfl⟩) (va_recv hK (y_one hMo) (ci := 10) rfl (q0 := 0) rfl) ⟨rfl, hMo, hH⟩ hK hN hX zw_nest_ok rfl hl.1 rfl (Nat.le_of_ble_eq_true rfl) dX10_valve_15 ⟨Nat.le_of_ble_eq_true rfl, Nat.le_of_ble_eq_true rfl⟩ hS (yA_mono (by have b0 := hS.1; omega)) (fun H locs hB1 oq1 hz1 hS => ?_)
  obtain ⟨hMo, hH⟩ := hB1
  refine W.widen (k := 0) (n := 0) (Nat.le_of_ble_eq_true rfl) (Nat.le_of_ble_eq_true rfl) ?_
  exact W.iret (v := 0) hx hb hr (fun t ht hW => ⟨⟨0, (), rfl, rfl, z_to (B := (fun H => yMo dC dI mo 1 (ad 0) sm H ∧ yW dC dI ca ad (yM 0) H)) ht ⟨hMo, hH⟩⟩, hS.F ht⟩) hS.2.2 dX10_valve_18
set_option maxHeartbeats 4000000 in
set_option maxRecDepth 100000 in
theorem m_X10_trace (l : Launch) (dC : Nat → ClassId) (dI : Nat → Nat → Nat) (ca : Nat → ClassId) (mo sz : Nat) (ad : Nat → Nat) (hI : z_I yd ad) (hm : ∀ i, yd.1 i < 200 → ad i ≠ mo) (th : Int32) (sm : Int64) (a1 a2 : Int32) : Met l yX10_trace wsX10_trace ({ frames := 2, cells := 0, slots := 0, locals := 43 }) (z_Py (dC, dI) vwCl (yt ca) zw_nest [.ref mo, .int a1, .int a2] (fun H => H.size = sz ∧ yMo dC dI mo th (ad 0) sm H ∧ yW dC dI ca ad (yM 0) H)) (z_Qi 0 (fun H => yMo dC dI mo 1 (ad 0) sm H ∧ yW dC dI ca ad (yM 0) H) (yA mo ad sz)) 0 0 (yA mo ad sz) := by
  refine Met.ofW (cc := cX10_trace) (maxL := 4) (ret := (some .int)) (by decide) rfl ?_
  intro p e s m args below meth c s₁ B9 hml hv
  obtain ⟨rfl, ⟨hz, hMo, hH⟩, hK, hN, hX⟩ := hv
  have hx := B9.exec
  have hb := B9.bytes
  have hr := B9.returns
  have hts := atoms_spec (ws := wsX10_trace) B9.pre
  have hown : s.vm.findClass RX10 = some m.cls := findClass_of_methodNamed B9.named
  have hlocks := B9.notSynchronized
  have hS : va_S (yA mo ad sz) s.heap s.heap [] := va_S.rf
  have hba : ∀ i, yd.1 i < 200 → ad i < sz := fun i hi => by have b0 := hH.lt hi; omega
  have hbm : mo < sz := by have b0 := va_at.lt hMo; exact hz ▸ b0
  have hAs : ∀ q, s.heap.size ≤ q → (yA mo ad sz) q := fun q h => Or.inr (Or.inr (hz ▸ h))
  have hinX10 : ∀ w ∈ u_ws RX10 TX10 3, w ∈ wsX10_trace := by decide +kernel
  have hl := lv_entry ([.ref mo, .int a1, .int a2]) (n := 4) (Nat.le_of_ble_eq_true rfl)
  rw [lg_entry_eq]
  generalize (lg_sl ([.ref mo, .int a1, .int a2]) ++ List.replicate (4 - (lg_sl ([.ref mo, .int a1, .int a2])).length) Slot.unset).toArray = ls at hl ⊢
  have hl : lv_has ls 4 [(0, .ref mo), (1, .int a1), (2, .int a2)] := hl
  refine lv_aload_n hx hb dX10_trace_0 rfl (lv_at hl 0 rfl) ?_
  refine lv_iconst (v := 0) hx hb dX10_trace_1 (by decide) ?_
  refine yo_put (D := (dC, dI)) (cl := vwCl) (C := RX10) (T := TX10) (N := 3) (ci := 10) (ty := .int) hx hb hts hinX10 tyX10 tyX10_ok nmX10 hown hK hMo hS (Or.inl rfl) rfl 0 (by decide) (hts (.fieldLink RX10 16 "SteamfieldModel" "thrown" "I") (by decide +kernel)) (fun _ h9 => h9) rfl (by decide +kernel) rfl rfl (show 0 < 3 by decide) dX10_trace_2 (fun H locs hMo z9 oq hS => ?_)
  have hMo : yMo dC dI mo 0 (ad 0) sm H := hMo
  have hH := hH.kept (fun i hi => oq _ (hm i hi))
  refine lv_aload_n hx hb dX10_trace_5 rfl (lv_at hl 0 rfl) ?_
  refine lv_iload_n hx hb dX10_trace_6 rfl (lv_at hl 1 rfl) ?_
  refine y_cVi (D := (dC, dI)) (cl := vwCl) (tys := yt ca) (nw := zw_nest) (C := RX10) (As := [.int a1]) (rest := []) ⟨hx, hb, hml, hown, hts⟩ (m_X10_isWell l dC dI ca mo H.size ad hI hm 0 sm a1 ) (cwV 1 hts gX10_trace_X10_isWell rfl rfl rfl (by decide +kernel) ⟨Nat.le_of_ble_eq_true rfl, Nat.le_of_ble_eq_true rfl⟩) (va_recv hK (y_one hMo) (ci := 10) rfl (q0 := 0) rfl) ⟨rfl, hMo, hH⟩ hK hN hX zw_nest_ok rfl hl.1 rfl (Nat.le_of_ble_eq_true rfl) dX10_trace_7 ⟨Nat.le_of_ble_eq_true rfl, Nat.le_of_ble_eq_true rfl⟩ hS (yA_mono (by have b0 := hS.1; omega)) (fun H locs hB1 oq1 hz1 hS => ?_)
  obtain ⟨hMo, hH⟩ := hB1
  refine lv_if_ne (tgt := 19) hx hb dX10_trace_10 (by decide) (fun c9 => absurd c9 (by decide)) (fun _ => ?_)
  refine lv_aload_n hx hb dX10_trace_13 rfl (lv_at hl 0 rfl) ?_
  refine lv_iconst (v := 1) hx hb dX10_trace_14 (by decide) ?_
  refine y_cVi (D := (dC, dI)) (cl := vwCl) (tys := yt ca) (nw := zw_nest) (C := RX10) (As := [.int 1]) (rest := []) ⟨hx, hb, hml, hown, hts⟩ (m_X10_refuse l dC dI ca mo H.size ad hI hm 0 sm 1 ) (cwV 1 hts gX10_trace_X10_refuse rfl rfl rfl (by decide +kernel) ⟨Nat.le_of_ble_eq_true rfl, Nat.le_of_ble_eq_true rfl⟩) (va_recv hK (y_one hMo) (ci := 10) rfl (q0 := 0) rfl) ⟨rfl, hMo, hH⟩ hK hN hX zw_nest_ok rfl hl.1 rfl (Nat.le_of_ble_eq_true rfl) dX10_trace_15 ⟨Nat.le_of_ble_eq_true rfl, Nat.le_of_ble_eq_true rfl⟩ hS (yA_mono (by have b0 := hS.1; omega)) (fun H locs hB1 oq1 hz1 hS => ?_)
  obtain ⟨hMo, hH⟩ := hB1
  refine W.widen (k := 0) (n := 0) (Nat.le_of_ble_eq_true rfl) (Nat.le_of_ble_eq_true rfl) ?_
  exact W.iret (v := 0) hx hb hr (fun t ht hW => ⟨⟨0, (), rfl, rfl, z_to (B := (fun H => yMo dC dI mo 1 (ad 0) sm H ∧ yW dC dI ca ad (yM 0) H)) ht ⟨hMo, hH⟩⟩, hS.F ht⟩) hS.2.2 dX10_trace_18
set_option maxHeartbeats 4000000 in
set_option maxRecDepth 100000 in
theorem m_X10_clean (l : Launch) (dC : Nat → ClassId) (dI : Nat → Nat → Nat) (ca : Nat → ClassId) (mo sz : Nat) (ad : Nat → Nat) (hI : z_I yd ad) (hm : ∀ i, yd.1 i < 200 → ad i ≠ mo) (th : Int32) (sm : Int64) (a1 : Int32) : Met l yX10_clean wsX10_clean ({ frames := 2, cells := 0, slots := 0, locals := 43 }) (z_Py (dC, dI) vwCl (yt ca) zw_nest [.ref mo, .int a1] (fun H => H.size = sz ∧ yMo dC dI mo th (ad 0) sm H ∧ yW dC dI ca ad (yM 0) H)) (z_Qi 0 (fun H => yMo dC dI mo 1 (ad 0) sm H ∧ yW dC dI ca ad (yM 0) H) (yA mo ad sz)) 0 0 (yA mo ad sz) := by
  refine Met.ofW (cc := cX10_clean) (maxL := 5) (ret := (some .int)) (by decide) rfl ?_
  intro p e s m args below meth c s₁ B9 hml hv
  obtain ⟨rfl, ⟨hz, hMo, hH⟩, hK, hN, hX⟩ := hv
  have hx := B9.exec
  have hb := B9.bytes
  have hr := B9.returns
  have hts := atoms_spec (ws := wsX10_clean) B9.pre
  have hown : s.vm.findClass RX10 = some m.cls := findClass_of_methodNamed B9.named
  have hlocks := B9.notSynchronized
  have hS : va_S (yA mo ad sz) s.heap s.heap [] := va_S.rf
  have hba : ∀ i, yd.1 i < 200 → ad i < sz := fun i hi => by have b0 := hH.lt hi; omega
  have hbm : mo < sz := by have b0 := va_at.lt hMo; exact hz ▸ b0
  have hAs : ∀ q, s.heap.size ≤ q → (yA mo ad sz) q := fun q h => Or.inr (Or.inr (hz ▸ h))
  have hinX10 : ∀ w ∈ u_ws RX10 TX10 3, w ∈ wsX10_clean := by decide +kernel
  have hl := lv_entry ([.ref mo, .int a1]) (n := 5) (Nat.le_of_ble_eq_true rfl)
  rw [lg_entry_eq]
  generalize (lg_sl ([.ref mo, .int a1]) ++ List.replicate (5 - (lg_sl ([.ref mo, .int a1])).length) Slot.unset).toArray = ls at hl ⊢
  have hl : lv_has ls 5 [(0, .ref mo), (1, .int a1)] := hl
  refine lv_aload_n hx hb dX10_clean_0 rfl (lv_at hl 0 rfl) ?_
  refine lv_iconst (v := 0) hx hb dX10_clean_1 (by decide) ?_
  refine yo_put (D := (dC, dI)) (cl := vwCl) (C := RX10) (T := TX10) (N := 3) (ci := 10) (ty := .int) hx hb hts hinX10 tyX10 tyX10_ok nmX10 hown hK hMo hS (Or.inl rfl) rfl 0 (by decide) (hts (.fieldLink RX10 16 "SteamfieldModel" "thrown" "I") (by decide +kernel)) (fun _ h9 => h9) rfl (by decide +kernel) rfl rfl (show 0 < 3 by decide) dX10_clean_2 (fun H locs hMo z9 oq hS => ?_)
  have hMo : yMo dC dI mo 0 (ad 0) sm H := hMo
  have hH := hH.kept (fun i hi => oq _ (hm i hi))
  refine lv_aload_n hx hb dX10_clean_5 rfl (lv_at hl 0 rfl) ?_
  refine lv_iload_n hx hb dX10_clean_6 rfl (lv_at hl 1 rfl) ?_
  refine y_cVi (D := (dC, dI)) (cl := vwCl) (tys := yt ca) (nw := zw_nest) (C := RX10) (As := [.int a1]) (rest := []) ⟨hx, hb, hml, hown, hts⟩ (m_X10_isWell l dC dI ca mo H.size ad hI hm 0 sm a1 ) (cwV 1 hts gX10_clean_X10_isWell rfl rfl rfl (by decide +kernel) ⟨Nat.le_of_ble_eq_true rfl, Nat.le_of_ble_eq_true rfl⟩) (va_recv hK (y_one hMo) (ci := 10) rfl (q0 := 0) rfl) ⟨rfl, hMo, hH⟩ hK hN hX zw_nest_ok rfl hl.1 rfl (Nat.le_of_ble_eq_true rfl) dX10_clean_7 ⟨Nat.le_of_ble_eq_true rfl, Nat.le_of_ble_eq_true rfl⟩ hS (yA_mono (by have b0 := hS.1; omega)) (fun H locs hB1 oq1 hz1 hS => ?_)
  obtain ⟨hMo, hH⟩ := hB1
  refine lv_if_ne (tgt := 19) hx hb dX10_clean_10 (by decide) (fun c9 => absurd c9 (by decide)) (fun _ => ?_)
  refine lv_aload_n hx hb dX10_clean_13 rfl (lv_at hl 0 rfl) ?_
  refine lv_iconst (v := 1) hx hb dX10_clean_14 (by decide) ?_
  refine y_cVi (D := (dC, dI)) (cl := vwCl) (tys := yt ca) (nw := zw_nest) (C := RX10) (As := [.int 1]) (rest := []) ⟨hx, hb, hml, hown, hts⟩ (m_X10_refuse l dC dI ca mo H.size ad hI hm 0 sm 1 ) (cwV 1 hts gX10_clean_X10_refuse rfl rfl rfl (by decide +kernel) ⟨Nat.le_of_ble_eq_true rfl, Nat.le_of_ble_eq_true rfl⟩) (va_recv hK (y_one hMo) (ci := 10) rfl (q0 := 0) rfl) ⟨rfl, hMo, hH⟩ hK hN hX zw_nest_ok rfl hl.1 rfl (Nat.le_of_ble_eq_true rfl) dX10_clean_15 ⟨Nat.le_of_ble_eq_true rfl, Nat.le_of_ble_eq_true rfl⟩ hS (yA_mono (by have b0 := hS.1; omega)) (fun H locs hB1 oq1 hz1 hS => ?_)
  obtain ⟨hMo, hH⟩ := hB1
  refine W.widen (k := 0) (n := 0) (Nat.le_of_ble_eq_true rfl) (Nat.le_of_ble_eq_true rfl) ?_
  exact W.iret (v := 0) hx hb hr (fun t ht hW => ⟨⟨0, (), rfl, rfl, z_to (B := (fun H => yMo dC dI mo 1 (ad 0) sm H ∧ yW dC dI ca ad (yM 0) H)) ht ⟨hMo, hH⟩⟩, hS.F ht⟩) hS.2.2 dX10_clean_18
set_option maxHeartbeats 4000000 in
set_option maxRecDepth 100000 in
theorem m_X10_ofBlock (l : Launch) (dC : Nat → ClassId) (dI : Nat → Nat → Nat) (ca : Nat → ClassId) (mo sz : Nat) (ad : Nat → Nat) (hI : z_I yd ad) (hm : ∀ i, yd.1 i < 200 → ad i ≠ mo) (th : Int32) (sm : Int64) (a1 a2 : Int32) : Met l yX10_ofBlock wsX10_ofBlock ({ frames := 2, cells := 0, slots := 0, locals := 43 }) (z_Py (dC, dI) vwCl (yt ca) zw_nest [.ref mo, .int a1, .int a2] (fun H => H.size = sz ∧ yMo dC dI mo th (ad 0) sm H ∧ yW dC dI ca ad (yM 0) H)) (z_Qi 0 (fun H => yMo dC dI mo 1 (ad 0) sm H ∧ yW dC dI ca ad (yM 0) H) (yA mo ad sz)) 0 0 (yA mo ad sz) := by
  refine Met.ofW (cc := cX10_ofBlock) (maxL := 3) (ret := (some .int)) (by decide) rfl ?_
  intro p e s m args below meth c s₁ B9 hml hv
  obtain ⟨rfl, ⟨hz, hMo, hH⟩, hK, hN, hX⟩ := hv
  have hx := B9.exec
  have hb := B9.bytes
  have hr := B9.returns
  have hts := atoms_spec (ws := wsX10_ofBlock) B9.pre
  have hown : s.vm.findClass RX10 = some m.cls := findClass_of_methodNamed B9.named
  have hlocks := B9.notSynchronized
  have hS : va_S (yA mo ad sz) s.heap s.heap [] := va_S.rf
  have hba : ∀ i, yd.1 i < 200 → ad i < sz := fun i hi => by have b0 := hH.lt hi; omega
  have hbm : mo < sz := by have b0 := va_at.lt hMo; exact hz ▸ b0
  have hAs : ∀ q, s.heap.size ≤ q → (yA mo ad sz) q := fun q h => Or.inr (Or.inr (hz ▸ h))
  have hinX10 : ∀ w ∈ u_ws RX10 TX10 3, w ∈ wsX10_ofBlock := by decide +kernel
  have hl := lv_entry ([.ref mo, .int a1, .int a2]) (n := 3) (Nat.le_of_ble_eq_true rfl)
  rw [lg_entry_eq]
  generalize (lg_sl ([.ref mo, .int a1, .int a2]) ++ List.replicate (3 - (lg_sl ([.ref mo, .int a1, .int a2])).length) Slot.unset).toArray = ls at hl ⊢
  have hl : lv_has ls 3 [(0, .ref mo), (1, .int a1), (2, .int a2)] := hl
  refine lv_aload_n hx hb dX10_ofBlock_0 rfl (lv_at hl 0 rfl) ?_
  refine lv_iconst (v := 0) hx hb dX10_ofBlock_1 (by decide) ?_
  refine yo_put (D := (dC, dI)) (cl := vwCl) (C := RX10) (T := TX10) (N := 3) (ci := 10) (ty := .int) hx hb hts hinX10 tyX10 tyX10_ok nmX10 hown hK hMo hS (Or.inl rfl) rfl 0 (by decide) (hts (.fieldLink RX10 16 "SteamfieldModel" "thrown" "I") (by decide +kernel)) (fun _ h9 => h9) rfl (by decide +kernel) rfl rfl (show 0 < 3 by decide) dX10_ofBlock_2 (fun H locs hMo z9 oq hS => ?_)
  have hMo : yMo dC dI mo 0 (ad 0) sm H := hMo
  have hH := hH.kept (fun i hi => oq _ (hm i hi))
  refine lv_aload_n hx hb dX10_ofBlock_5 rfl (lv_at hl 0 rfl) ?_
  refine lv_iload_n hx hb dX10_ofBlock_6 rfl (lv_at hl 1 rfl) ?_
  refine y_cVi (D := (dC, dI)) (cl := vwCl) (tys := yt ca) (nw := zw_nest) (C := RX10) (As := [.int a1]) (rest := []) ⟨hx, hb, hml, hown, hts⟩ (m_X10_isBlock l dC dI ca mo H.size ad hI hm 0 sm a1 ) (cwV 1 hts gX10_ofBlock_X10_isBlock rfl rfl rfl (by decide +kernel) ⟨Nat.le_of_ble_eq_true rfl, Nat.le_of_ble_eq_true rfl⟩) (va_recv hK (y_one hMo) (ci := 10) rfl (q0 := 0) rfl) ⟨rfl, hMo, hH⟩ hK hN hX zw_nest_ok rfl hl.1 rfl (Nat.le_of_ble_eq_true rfl) dX10_ofBlock_7 ⟨Nat.le_of_ble_eq_true rfl, Nat.le_of_ble_eq_true rfl⟩ hS (yA_mono (by have b0 := hS.1; omega)) (fun H locs hB1 oq1 hz1 hS => ?_)
  obtain ⟨hMo, hH⟩ := hB1
  refine lv_if_ne (tgt := 19) hx hb dX10_ofBlock_10 (by decide) (fun c9 => absurd c9 (by decide)) (fun _ => ?_)
  refine lv_aload_n hx hb dX10_ofBlock_13 rfl (lv_at hl 0 rfl) ?_
  refine lv_iconst (v := 1) hx hb dX10_ofBlock_14 (by decide) ?_
  refine y_cVi (D := (dC, dI)) (cl := vwCl) (tys := yt ca) (nw := zw_nest) (C := RX10) (As := [.int 1]) (rest := []) ⟨hx, hb, hml, hown, hts⟩ (m_X10_refuse l dC dI ca mo H.size ad hI hm 0 sm 1 ) (cwV 1 hts gX10_ofBlock_X10_refuse rfl rfl rfl (by decide +kernel) ⟨Nat.le_of_ble_eq_true rfl, Nat.le_of_ble_eq_true rfl⟩) (va_recv hK (y_one hMo) (ci := 10) rfl (q0 := 0) rfl) ⟨rfl, hMo, hH⟩ hK hN hX zw_nest_ok rfl hl.1 rfl (Nat.le_of_ble_eq_true rfl) dX10_ofBlock_15 ⟨Nat.le_of_ble_eq_true rfl, Nat.le_of_ble_eq_true rfl⟩ hS (yA_mono (by have b0 := hS.1; omega)) (fun H locs hB1 oq1 hz1 hS => ?_)
  obtain ⟨hMo, hH⟩ := hB1
  refine W.widen (k := 0) (n := 0) (Nat.le_of_ble_eq_true rfl) (Nat.le_of_ble_eq_true rfl) ?_
  exact W.iret (v := 0) hx hb hr (fun t ht hW => ⟨⟨0, (), rfl, rfl, z_to (B := (fun H => yMo dC dI mo 1 (ad 0) sm H ∧ yW dC dI ca ad (yM 0) H)) ht ⟨hMo, hH⟩⟩, hS.F ht⟩) hS.2.2 dX10_ofBlock_18
set_option maxHeartbeats 4000000 in
set_option maxRecDepth 100000 in
theorem m_X10_ofWell (l : Launch) (dC : Nat → ClassId) (dI : Nat → Nat → Nat) (ca : Nat → ClassId) (mo sz : Nat) (ad : Nat → Nat) (hI : z_I yd ad) (hm : ∀ i, yd.1 i < 200 → ad i ≠ mo) (th : Int32) (sm : Int64) (a1 a2 : Int32) : Met l yX10_ofWell wsX10_ofWell ({ frames := 2, cells := 0, slots := 0, locals := 43 }) (z_Py (dC, dI) vwCl (yt ca) zw_nest [.ref mo, .int a1, .int a2] (fun H => H.size = sz ∧ yMo dC dI mo th (ad 0) sm H ∧ yW dC dI ca ad (yM 0) H)) (z_Qi 0 (fun H => yMo dC dI mo 1 (ad 0) sm H ∧ yW dC dI ca ad (yM 0) H) (yA mo ad sz)) 0 0 (yA mo ad sz) := by
  refine Met.ofW (cc := cX10_ofWell) (maxL := 3) (ret := (some .int)) (by decide) rfl ?_
  intro p e s m args below meth c s₁ B9 hml hv
  obtain ⟨rfl, ⟨hz, hMo, hH⟩, hK, hN, hX⟩ := hv
  have hx := B9.exec
  have hb := B9.bytes
  have hr := B9.returns
  have hts := atoms_spec (ws := wsX10_ofWell) B9.pre
  have hown : s.vm.findClass RX10 = some m.cls := findClass_of_methodNamed B9.named
  have hlocks := B9.notSynchronized
  have hS : va_S (yA mo ad sz) s.heap s.heap [] := va_S.rf
  have hba : ∀ i, yd.1 i < 200 → ad i < sz := fun i hi => by have b0 := hH.lt hi; omega
  have hbm : mo < sz := by have b0 := va_at.lt hMo; exact hz ▸ b0
  have hAs : ∀ q, s.heap.size ≤ q → (yA mo ad sz) q := fun q h => Or.inr (Or.inr (hz ▸ h))
  have hinX10 : ∀ w ∈ u_ws RX10 TX10 3, w ∈ wsX10_ofWell := by decide +kernel
  have hl := lv_entry ([.ref mo, .int a1, .int a2]) (n := 3) (Nat.le_of_ble_eq_true rfl)
  rw [lg_entry_eq]
  generalize (lg_sl ([.ref mo, .int a1, .int a2]) ++ List.replicate (3 - (lg_sl ([.ref mo, .int a1, .int a2])).length) Slot.unset).toArray = ls at hl ⊢
  have hl : lv_has ls 3 [(0, .ref mo), (1, .int a1), (2, .int a2)] := hl
  refine lv_aload_n hx hb dX10_ofWell_0 rfl (lv_at hl 0 rfl) ?_
  refine lv_iconst (v := 0) hx hb dX10_ofWell_1 (by decide) ?_
  refine yo_put (D := (dC, dI)) (cl := vwCl) (C := RX10) (T := TX10) (N := 3) (ci := 10) (ty := .int) hx hb hts hinX10 tyX10 tyX10_ok nmX10 hown hK hMo hS (Or.inl rfl) rfl 0 (by decide) (hts (.fieldLink RX10 16 "SteamfieldModel" "thrown" "I") (by decide +kernel)) (fun _ h9 => h9) rfl (by decide +kernel) rfl rfl (show 0 < 3 by decide) dX10_ofWell_2 (fun H locs hMo z9 oq hS => ?_)
  have hMo : yMo dC dI mo 0 (ad 0) sm H := hMo
  have hH := hH.kept (fun i hi => oq _ (hm i hi))
  refine lv_aload_n hx hb dX10_ofWell_5 rfl (lv_at hl 0 rfl) ?_
  refine lv_iload_n hx hb dX10_ofWell_6 rfl (lv_at hl 1 rfl) ?_
  refine y_cVi (D := (dC, dI)) (cl := vwCl) (tys := yt ca) (nw := zw_nest) (C := RX10) (As := [.int a1]) (rest := []) ⟨hx, hb, hml, hown, hts⟩ (m_X10_isWell l dC dI ca mo H.size ad hI hm 0 sm a1 ) (cwV 1 hts gX10_ofWell_X10_isWell rfl rfl rfl (by decide +kernel) ⟨Nat.le_of_ble_eq_true rfl, Nat.le_of_ble_eq_true rfl⟩) (va_recv hK (y_one hMo) (ci := 10) rfl (q0 := 0) rfl) ⟨rfl, hMo, hH⟩ hK hN hX zw_nest_ok rfl hl.1 rfl (Nat.le_of_ble_eq_true rfl) dX10_ofWell_7 ⟨Nat.le_of_ble_eq_true rfl, Nat.le_of_ble_eq_true rfl⟩ hS (yA_mono (by have b0 := hS.1; omega)) (fun H locs hB1 oq1 hz1 hS => ?_)
  obtain ⟨hMo, hH⟩ := hB1
  refine lv_if_ne (tgt := 19) hx hb dX10_ofWell_10 (by decide) (fun c9 => absurd c9 (by decide)) (fun _ => ?_)
  refine lv_aload_n hx hb dX10_ofWell_13 rfl (lv_at hl 0 rfl) ?_
  refine lv_iconst (v := 1) hx hb dX10_ofWell_14 (by decide) ?_
  refine y_cVi (D := (dC, dI)) (cl := vwCl) (tys := yt ca) (nw := zw_nest) (C := RX10) (As := [.int 1]) (rest := []) ⟨hx, hb, hml, hown, hts⟩ (m_X10_refuse l dC dI ca mo H.size ad hI hm 0 sm 1 ) (cwV 1 hts gX10_ofWell_X10_refuse rfl rfl rfl (by decide +kernel) ⟨Nat.le_of_ble_eq_true rfl, Nat.le_of_ble_eq_true rfl⟩) (va_recv hK (y_one hMo) (ci := 10) rfl (q0 := 0) rfl) ⟨rfl, hMo, hH⟩ hK hN hX zw_nest_ok rfl hl.1 rfl (Nat.le_of_ble_eq_true rfl) dX10_ofWell_15 ⟨Nat.le_of_ble_eq_true rfl, Nat.le_of_ble_eq_true rfl⟩ hS (yA_mono (by have b0 := hS.1; omega)) (fun H locs hB1 oq1 hz1 hS => ?_)
  obtain ⟨hMo, hH⟩ := hB1
  refine W.widen (k := 0) (n := 0) (Nat.le_of_ble_eq_true rfl) (Nat.le_of_ble_eq_true rfl) ?_
  exact W.iret (v := 0) hx hb hr (fun t ht hW => ⟨⟨0, (), rfl, rfl, z_to (B := (fun H => yMo dC dI mo 1 (ad 0) sm H ∧ yW dC dI ca ad (yM 0) H)) ht ⟨hMo, hH⟩⟩, hS.F ht⟩) hS.2.2 dX10_ofWell_18
set_option maxHeartbeats 4000000 in
set_option maxRecDepth 100000 in
theorem m_X10_ofSpring (l : Launch) (dC : Nat → ClassId) (dI : Nat → Nat → Nat) (ca : Nat → ClassId) (mo sz : Nat) (ad : Nat → Nat) (hI : z_I yd ad) (hm : ∀ i, yd.1 i < 200 → ad i ≠ mo) (th : Int32) (sm : Int64) (a1 a2 : Int32) : Met l yX10_ofSpring wsX10_ofSpring ({ frames := 2, cells := 0, slots := 0, locals := 43 }) (z_Py (dC, dI) vwCl (yt ca) zw_nest [.ref mo, .int a1, .int a2] (fun H => H.size = sz ∧ yMo dC dI mo th (ad 0) sm H ∧ yW dC dI ca ad (yM 0) H)) (z_Qi 0 (fun H => yMo dC dI mo 1 (ad 0) sm H ∧ yW dC dI ca ad (yM 0) H) (yA mo ad sz)) 0 0 (yA mo ad sz) := by
  refine Met.ofW (cc := cX10_ofSpring) (maxL := 3) (ret := (some .int)) (by decide) rfl ?_
  intro p e s m args below meth c s₁ B9 hml hv
  obtain ⟨rfl, ⟨hz, hMo, hH⟩, hK, hN, hX⟩ := hv
  have hx := B9.exec
  have hb := B9.bytes
  have hr := B9.returns
  have hts := atoms_spec (ws := wsX10_ofSpring) B9.pre
  have hown : s.vm.findClass RX10 = some m.cls := findClass_of_methodNamed B9.named
  have hlocks := B9.notSynchronized
  have hS : va_S (yA mo ad sz) s.heap s.heap [] := va_S.rf
  have hba : ∀ i, yd.1 i < 200 → ad i < sz := fun i hi => by have b0 := hH.lt hi; omega
  have hbm : mo < sz := by have b0 := va_at.lt hMo; exact hz ▸ b0
  have hAs : ∀ q, s.heap.size ≤ q → (yA mo ad sz) q := fun q h => Or.inr (Or.inr (hz ▸ h))
  have hinX10 : ∀ w ∈ u_ws RX10 TX10 3, w ∈ wsX10_ofSpring := by decide +kernel
  have hl := lv_entry ([.ref mo, .int a1, .int a2]) (n := 3) (Nat.le_of_ble_eq_true rfl)
  rw [lg_entry_eq]
  generalize (lg_sl ([.ref mo, .int a1, .int a2]) ++ List.replicate (3 - (lg_sl ([.ref mo, .int a1, .int a2])).length) Slot.unset).toArray = ls at hl ⊢
  have hl : lv_has ls 3 [(0, .ref mo), (1, .int a1), (2, .int a2)] := hl
  refine lv_aload_n hx hb dX10_ofSpring_0 rfl (lv_at hl 0 rfl) ?_
  refine lv_iconst (v := 0) hx hb dX10_ofSpring_1 (by decide) ?_
  refine yo_put (D := (dC, dI)) (cl := vwCl) (C := RX10) (T := TX10) (N := 3) (ci := 10) (ty := .int) hx hb hts hinX10 tyX10 tyX10_ok nmX10 hown hK hMo hS (Or.inl rfl) rfl 0 (by decide) (hts (.fieldLink RX10 16 "SteamfieldModel" "thrown" "I") (by decide +kernel)) (fun _ h9 => h9) rfl (by decide +kernel) rfl rfl (show 0 < 3 by decide) dX10_ofSpring_2 (fun H locs hMo z9 oq hS => ?_)
  have hMo : yMo dC dI mo 0 (ad 0) sm H := hMo
  have hH := hH.kept (fun i hi => oq _ (hm i hi))
  refine lv_aload_n hx hb dX10_ofSpring_5 rfl (lv_at hl 0 rfl) ?_
  refine lv_iload_n hx hb dX10_ofSpring_6 rfl (lv_at hl 1 rfl) ?_
  refine y_cVi (D := (dC, dI)) (cl := vwCl) (tys := yt ca) (nw := zw_nest) (C := RX10) (As := [.int a1]) (rest := []) ⟨hx, hb, hml, hown, hts⟩ (m_X10_isSpring l dC dI ca mo H.size ad hI hm 0 sm a1 ) (cwV 1 hts gX10_ofSpring_X10_isSpring rfl rfl rfl (by decide +kernel) ⟨Nat.le_of_ble_eq_true rfl, Nat.le_of_ble_eq_true rfl⟩) (va_recv hK (y_one hMo) (ci := 10) rfl (q0 := 0) rfl) ⟨rfl, hMo, hH⟩ hK hN hX zw_nest_ok rfl hl.1 rfl (Nat.le_of_ble_eq_true rfl) dX10_ofSpring_7 ⟨Nat.le_of_ble_eq_true rfl, Nat.le_of_ble_eq_true rfl⟩ hS (yA_mono (by have b0 := hS.1; omega)) (fun H locs hB1 oq1 hz1 hS => ?_)
  obtain ⟨hMo, hH⟩ := hB1
  refine lv_if_ne (tgt := 19) hx hb dX10_ofSpring_10 (by decide) (fun c9 => absurd c9 (by decide)) (fun _ => ?_)
  refine lv_aload_n hx hb dX10_ofSpring_13 rfl (lv_at hl 0 rfl) ?_
  refine lv_iconst (v := 1) hx hb dX10_ofSpring_14 (by decide) ?_
  refine y_cVi (D := (dC, dI)) (cl := vwCl) (tys := yt ca) (nw := zw_nest) (C := RX10) (As := [.int 1]) (rest := []) ⟨hx, hb, hml, hown, hts⟩ (m_X10_refuse l dC dI ca mo H.size ad hI hm 0 sm 1 ) (cwV 1 hts gX10_ofSpring_X10_refuse rfl rfl rfl (by decide +kernel) ⟨Nat.le_of_ble_eq_true rfl, Nat.le_of_ble_eq_true rfl⟩) (va_recv hK (y_one hMo) (ci := 10) rfl (q0 := 0) rfl) ⟨rfl, hMo, hH⟩ hK hN hX zw_nest_ok rfl hl.1 rfl (Nat.le_of_ble_eq_true rfl) dX10_ofSpring_15 ⟨Nat.le_of_ble_eq_true rfl, Nat.le_of_ble_eq_true rfl⟩ hS (yA_mono (by have b0 := hS.1; omega)) (fun H locs hB1 oq1 hz1 hS => ?_)
  obtain ⟨hMo, hH⟩ := hB1
  refine W.widen (k := 0) (n := 0) (Nat.le_of_ble_eq_true rfl) (Nat.le_of_ble_eq_true rfl) ?_
  exact W.iret (v := 0) hx hb hr (fun t ht hW => ⟨⟨0, (), rfl, rfl, z_to (B := (fun H => yMo dC dI mo 1 (ad 0) sm H ∧ yW dC dI ca ad (yM 0) H)) ht ⟨hMo, hH⟩⟩, hS.F ht⟩) hS.2.2 dX10_ofSpring_18
set_option maxHeartbeats 4000000 in
set_option maxRecDepth 100000 in
theorem m_X10_ofFace (l : Launch) (dC : Nat → ClassId) (dI : Nat → Nat → Nat) (ca : Nat → ClassId) (mo sz : Nat) (ad : Nat → Nat) (hI : z_I yd ad) (hm : ∀ i, yd.1 i < 200 → ad i ≠ mo) (th : Int32) (sm : Int64) (a1 a2 : Int32) : Met l yX10_ofFace wsX10_ofFace ({ frames := 2, cells := 0, slots := 0, locals := 43 }) (z_Py (dC, dI) vwCl (yt ca) zw_nest [.ref mo, .int a1, .int a2] (fun H => H.size = sz ∧ yMo dC dI mo th (ad 0) sm H ∧ yW dC dI ca ad (yM 0) H)) (z_Qi 0 (fun H => yMo dC dI mo 1 (ad 0) sm H ∧ yW dC dI ca ad (yM 0) H) (yA mo ad sz)) 0 0 (yA mo ad sz) := by
  refine Met.ofW (cc := cX10_ofFace) (maxL := 3) (ret := (some .int)) (by decide) rfl ?_
  intro p e s m args below meth c s₁ B9 hml hv
  obtain ⟨rfl, ⟨hz, hMo, hH⟩, hK, hN, hX⟩ := hv
  have hx := B9.exec
  have hb := B9.bytes
  have hr := B9.returns
  have hts := atoms_spec (ws := wsX10_ofFace) B9.pre
  have hown : s.vm.findClass RX10 = some m.cls := findClass_of_methodNamed B9.named
  have hlocks := B9.notSynchronized
  have hS : va_S (yA mo ad sz) s.heap s.heap [] := va_S.rf
  have hba : ∀ i, yd.1 i < 200 → ad i < sz := fun i hi => by have b0 := hH.lt hi; omega
  have hbm : mo < sz := by have b0 := va_at.lt hMo; exact hz ▸ b0
  have hAs : ∀ q, s.heap.size ≤ q → (yA mo ad sz) q := fun q h => Or.inr (Or.inr (hz ▸ h))
  have hinX10 : ∀ w ∈ u_ws RX10 TX10 3, w ∈ wsX10_ofFace := by decide +kernel
  have hl := lv_entry ([.ref mo, .int a1, .int a2]) (n := 3) (Nat.le_of_ble_eq_true rfl)
  rw [lg_entry_eq]
  generalize (lg_sl ([.ref mo, .int a1, .int a2]) ++ List.replicate (3 - (lg_sl ([.ref mo, .int a1, .int a2])).length) Slot.unset).toArray = ls at hl ⊢
  have hl : lv_has ls 3 [(0, .ref mo), (1, .int a1), (2, .int a2)] := hl
  refine lv_aload_n hx hb dX10_ofFace_0 rfl (lv_at hl 0 rfl) ?_
  refine lv_iconst (v := 0) hx hb dX10_ofFace_1 (by decide) ?_
  refine yo_put (D := (dC, dI)) (cl := vwCl) (C := RX10) (T := TX10) (N := 3) (ci := 10) (ty := .int) hx hb hts hinX10 tyX10 tyX10_ok nmX10 hown hK hMo hS (Or.inl rfl) rfl 0 (by decide) (hts (.fieldLink RX10 16 "SteamfieldModel" "thrown" "I") (by decide +kernel)) (fun _ h9 => h9) rfl (by decide +kernel) rfl rfl (show 0 < 3 by decide) dX10_ofFace_2 (fun H locs hMo z9 oq hS => ?_)
  have hMo : yMo dC dI mo 0 (ad 0) sm H := hMo
  have hH := hH.kept (fun i hi => oq _ (hm i hi))
  refine lv_aload_n hx hb dX10_ofFace_5 rfl (lv_at hl 0 rfl) ?_
  refine lv_iload_n hx hb dX10_ofFace_6 rfl (lv_at hl 1 rfl) ?_
  refine y_cVi (D := (dC, dI)) (cl := vwCl) (tys := yt ca) (nw := zw_nest) (C := RX10) (As := [.int a1]) (rest := []) ⟨hx, hb, hml, hown, hts⟩ (m_X10_isFace l dC dI ca mo H.size ad hI hm 0 sm a1 ) (cwV 1 hts gX10_ofFace_X10_isFace rfl rfl rfl (by decide +kernel) ⟨Nat.le_of_ble_eq_true rfl, Nat.le_of_ble_eq_true rfl⟩) (va_recv hK (y_one hMo) (ci := 10) rfl (q0 := 0) rfl) ⟨rfl, hMo, hH⟩ hK hN hX zw_nest_ok rfl hl.1 rfl (Nat.le_of_ble_eq_true rfl) dX10_ofFace_7 ⟨Nat.le_of_ble_eq_true rfl, Nat.le_of_ble_eq_true rfl⟩ hS (yA_mono (by have b0 := hS.1; omega)) (fun H locs hB1 oq1 hz1 hS => ?_)
  obtain ⟨hMo, hH⟩ := hB1
  refine lv_if_eq (tgt := 35) hx hb dX10_ofFace_10 (by decide) (fun _ => ?_) (fun c9 => absurd c9 (by decide))
  refine lv_aload_n hx hb dX10_ofFace_35 rfl (lv_at hl 0 rfl) ?_
  refine lv_iconst (v := 1) hx hb dX10_ofFace_36 (by decide) ?_
  refine y_cVi (D := (dC, dI)) (cl := vwCl) (tys := yt ca) (nw := zw_nest) (C := RX10) (As := [.int 1]) (rest := []) ⟨hx, hb, hml, hown, hts⟩ (m_X10_refuse l dC dI ca mo H.size ad hI hm 0 sm 1 ) (cwV 1 hts gX10_ofFace_X10_refuse rfl rfl rfl (by decide +kernel) ⟨Nat.le_of_ble_eq_true rfl, Nat.le_of_ble_eq_true rfl⟩) (va_recv hK (y_one hMo) (ci := 10) rfl (q0 := 0) rfl) ⟨rfl, hMo, hH⟩ hK hN hX zw_nest_ok rfl hl.1 rfl (Nat.le_of_ble_eq_true rfl) dX10_ofFace_37 ⟨Nat.le_of_ble_eq_true rfl, Nat.le_of_ble_eq_true rfl⟩ hS (yA_mono (by have b0 := hS.1; omega)) (fun H locs hB1 oq1 hz1 hS => ?_)
  obtain ⟨hMo, hH⟩ := hB1
  refine W.widen (k := 0) (n := 0) (Nat.le_of_ble_eq_true rfl) (Nat.le_of_ble_eq_true rfl) ?_
  exact W.iret (v := 0) hx hb hr (fun t ht hW => ⟨⟨0, (), rfl, rfl, z_to (B := (fun H => yMo dC dI mo 1 (ad 0) sm H ∧ yW dC dI ca ad (yM 0) H)) ht ⟨hMo, hH⟩⟩, hS.F ht⟩) hS.2.2 dX10_ofFace_40
set_option maxHeartbeats 4000000 in
set_option maxRecDepth 100000 in
theorem m_X10_coldIn (l : Launch) (dC : Nat → ClassId) (dI : Nat → Nat → Nat) (ca : Nat → ClassId) (mo sz : Nat) (ad : Nat → Nat) (hI : z_I yd ad) (hm : ∀ i, yd.1 i < 200 → ad i ≠ mo) (th : Int32) (sm : Int64) (a1 a2 : Int32) : Met l yX10_coldIn wsX10_coldIn ({ frames := 2, cells := 0, slots := 0, locals := 43 }) (z_Py (dC, dI) vwCl (yt ca) zw_nest [.ref mo, .int a1, .int a2] (fun H => H.size = sz ∧ yMo dC dI mo th (ad 0) sm H ∧ yW dC dI ca ad (yM 0) H)) (z_Qi 0 (fun H => yMo dC dI mo 1 (ad 0) sm H ∧ yW dC dI ca ad (yM 0) H) (yA mo ad sz)) 0 0 (yA mo ad sz) := by
  refine Met.ofW (cc := cX10_coldIn) (maxL := 3) (ret := (some .int)) (by decide) rfl ?_
  intro p e s m args below meth c s₁ B9 hml hv
  obtain ⟨rfl, ⟨hz, hMo, hH⟩, hK, hN, hX⟩ := hv
  have hx := B9.exec
  have hb := B9.bytes
  have hr := B9.returns
  have hts := atoms_spec (ws := wsX10_coldIn) B9.pre
  have hown : s.vm.findClass RX10 = some m.cls := findClass_of_methodNamed B9.named
  have hlocks := B9.notSynchronized
  have hS : va_S (yA mo ad sz) s.heap s.heap [] := va_S.rf
  have hba : ∀ i, yd.1 i < 200 → ad i < sz := fun i hi => by have b0 := hH.lt hi; omega
  have hbm : mo < sz := by have b0 := va_at.lt hMo; exact hz ▸ b0
  have hAs : ∀ q, s.heap.size ≤ q → (yA mo ad sz) q := fun q h => Or.inr (Or.inr (hz ▸ h))
  have hinX10 : ∀ w ∈ u_ws RX10 TX10 3, w ∈ wsX10_coldIn := by decide +kernel
  have hl := lv_entry ([.ref mo, .int a1, .int a2]) (n := 3) (Nat.le_of_ble_eq_true rfl)
  rw [lg_entry_eq]
  generalize (lg_sl ([.ref mo, .int a1, .int a2]) ++ List.replicate (3 - (lg_sl ([.ref mo, .int a1, .int a2])).length) Slot.unset).toArray = ls at hl ⊢
  have hl : lv_has ls 3 [(0, .ref mo), (1, .int a1), (2, .int a2)] := hl
  refine lv_aload_n hx hb dX10_coldIn_0 rfl (lv_at hl 0 rfl) ?_
  refine lv_iconst (v := 0) hx hb dX10_coldIn_1 (by decide) ?_
  refine yo_put (D := (dC, dI)) (cl := vwCl) (C := RX10) (T := TX10) (N := 3) (ci := 10) (ty := .int) hx hb hts hinX10 tyX10 tyX10_ok nmX10 hown hK hMo hS (Or.inl rfl) rfl 0 (by decide) (hts (.fieldLink RX10 16 "SteamfieldModel" "thrown" "I") (by decide +kernel)) (fun _ h9 => h9) rfl (by decide +kernel) rfl rfl (show 0 < 3 by decide) dX10_coldIn_2 (fun H locs hMo z9 oq hS => ?_)
  have hMo : yMo dC dI mo 0 (ad 0) sm H := hMo
  have hH := hH.kept (fun i hi => oq _ (hm i hi))
  refine lv_aload_n hx hb dX10_coldIn_5 rfl (lv_at hl 0 rfl) ?_
  refine lv_iload_n hx hb dX10_coldIn_6 rfl (lv_at hl 1 rfl) ?_
  refine y_cVi (D := (dC, dI)) (cl := vwCl) (tys := yt ca) (nw := zw_nest) (C := RX10) (As := [.int a1]) (rest := []) ⟨hx, hb, hml, hown, hts⟩ (m_X10_isWell l dC dI ca mo H.size ad hI hm 0 sm a1 ) (cwV 1 hts gX10_coldIn_X10_isWell rfl rfl rfl (by decide +kernel) ⟨Nat.le_of_ble_eq_true rfl, Nat.le_of_ble_eq_true rfl⟩) (va_recv hK (y_one hMo) (ci := 10) rfl (q0 := 0) rfl) ⟨rfl, hMo, hH⟩ hK hN hX zw_nest_ok rfl hl.1 rfl (Nat.le_of_ble_eq_true rfl) dX10_coldIn_7 ⟨Nat.le_of_ble_eq_true rfl, Nat.le_of_ble_eq_true rfl⟩ hS (yA_mono (by have b0 := hS.1; omega)) (fun H locs hB1 oq1 hz1 hS => ?_)
  obtain ⟨hMo, hH⟩ := hB1
  refine lv_if_ne (tgt := 19) hx hb dX10_coldIn_10 (by decide) (fun c9 => absurd c9 (by decide)) (fun _ => ?_)
  refine lv_aload_n hx hb dX10_coldIn_13 rfl (lv_at hl 0 rfl) ?_
  refine lv_iconst (v := 1) hx hb dX10_coldIn_14 (by decide) ?_
  refine y_cVi (D := (dC, dI)) (cl := vwCl) (tys := yt ca) (nw := zw_nest) (C := RX10) (As := [.int 1]) (rest := []) ⟨hx, hb, hml, hown, hts⟩ (m_X10_refuse l dC dI ca mo H.size ad hI hm 0 sm 1 ) (cwV 1 hts gX10_coldIn_X10_refuse rfl rfl rfl (by decide +kernel) ⟨Nat.le_of_ble_eq_true rfl, Nat.le_of_ble_eq_true rfl⟩) (va_recv hK (y_one hMo) (ci := 10) rfl (q0 := 0) rfl) ⟨rfl, hMo, hH⟩ hK hN hX zw_nest_ok rfl hl.1 rfl (Nat.le_of_ble_eq_true rfl) dX10_coldIn_15 ⟨Nat.le_of_ble_eq_true rfl, Nat.le_of_ble_eq_true rfl⟩ hS (yA_mono (by have b0 := hS.1; omega)) (fun H locs hB1 oq1 hz1 hS => ?_)
  obtain ⟨hMo, hH⟩ := hB1
  refine W.widen (k := 0) (n := 0) (Nat.le_of_ble_eq_true rfl) (Nat.le_of_ble_eq_true rfl) ?_
  exact W.iret (v := 0) hx hb hr (fun t ht hW => ⟨⟨0, (), rfl, rfl, z_to (B := (fun H => yMo dC dI mo 1 (ad 0) sm H ∧ yW dC dI ca ad (yM 0) H)) ht ⟨hMo, hH⟩⟩, hS.F ht⟩) hS.2.2 dX10_coldIn_18
set_option maxHeartbeats 4000000 in
set_option maxRecDepth 100000 in
theorem m_X10_causedBy (l : Launch) (dC : Nat → ClassId) (dI : Nat → Nat → Nat) (ca : Nat → ClassId) (mo sz : Nat) (ad : Nat → Nat) (hI : z_I yd ad) (hm : ∀ i, yd.1 i < 200 → ad i ≠ mo) (th : Int32) (sm : Int64) (a1 a2 a3 : Int32) : Met l yX10_causedBy wsX10_causedBy ({ frames := 2, cells := 0, slots := 0, locals := 43 }) (z_Py (dC, dI) vwCl (yt ca) zw_nest [.ref mo, .int a1, .int a2, .int a3] (fun H => H.size = sz ∧ yMo dC dI mo th (ad 0) sm H ∧ yW dC dI ca ad (yM 0) H)) (z_Qi 0 (fun H => yMo dC dI mo 1 (ad 0) sm H ∧ yW dC dI ca ad (yM 0) H) (yA mo ad sz)) 0 0 (yA mo ad sz) := by
  refine Met.ofW (cc := cX10_causedBy) (maxL := 4) (ret := (some .int)) (by decide) rfl ?_
  intro p e s m args below meth c s₁ B9 hml hv
  obtain ⟨rfl, ⟨hz, hMo, hH⟩, hK, hN, hX⟩ := hv
  have hx := B9.exec
  have hb := B9.bytes
  have hr := B9.returns
  have hts := atoms_spec (ws := wsX10_causedBy) B9.pre
  have hown : s.vm.findClass RX10 = some m.cls := findClass_of_methodNamed B9.named
  have hlocks := B9.notSynchronized
  have hS : va_S (yA mo ad sz) s.heap s.heap [] := va_S.rf
  have hba : ∀ i, yd.1 i < 200 → ad i < sz := fun i hi => by have b0 := hH.lt hi; omega
  have hbm : mo < sz := by have b0 := va_at.lt hMo; exact hz ▸ b0
  have hAs : ∀ q, s.heap.size ≤ q → (yA mo ad sz) q := fun q h => Or.inr (Or.inr (hz ▸ h))
  have hinX10 : ∀ w ∈ u_ws RX10 TX10 3, w ∈ wsX10_causedBy := by decide +kernel
  have hl := lv_entry ([.ref mo, .int a1, .int a2, .int a3]) (n := 4) (Nat.le_of_ble_eq_true rfl)
  rw [lg_entry_eq]
  generalize (lg_sl ([.ref mo, .int a1, .int a2, .int a3]) ++ List.replicate (4 - (lg_sl ([.ref mo, .int a1, .int a2, .int a3])).length) Slot.unset).toArray = ls at hl ⊢
  have hl : lv_has ls 4 [(0, .ref mo), (1, .int a1), (2, .int a2), (3, .int a3)] := hl
  refine lv_aload_n hx hb dX10_causedBy_0 rfl (lv_at hl 0 rfl) ?_
  refine lv_iconst (v := 0) hx hb dX10_causedBy_1 (by decide) ?_
  refine yo_put (D := (dC, dI)) (cl := vwCl) (C := RX10) (T := TX10) (N := 3) (ci := 10) (ty := .int) hx hb hts hinX10 tyX10 tyX10_ok nmX10 hown hK hMo hS (Or.inl rfl) rfl 0 (by decide) (hts (.fieldLink RX10 16 "SteamfieldModel" "thrown" "I") (by decide +kernel)) (fun _ h9 => h9) rfl (by decide +kernel) rfl rfl (show 0 < 3 by decide) dX10_causedBy_2 (fun H locs hMo z9 oq hS => ?_)
  have hMo : yMo dC dI mo 0 (ad 0) sm H := hMo
  have hH := hH.kept (fun i hi => oq _ (hm i hi))
  refine lv_aload_n hx hb dX10_causedBy_5 rfl (lv_at hl 0 rfl) ?_
  refine lv_iload_n hx hb dX10_causedBy_6 rfl (lv_at hl 1 rfl) ?_
  refine y_cVi (D := (dC, dI)) (cl := vwCl) (tys := yt ca) (nw := zw_nest) (C := RX10) (As := [.int a1]) (rest := []) ⟨hx, hb, hml, hown, hts⟩ (m_X10_isSpring l dC dI ca mo H.size ad hI hm 0 sm a1 ) (cwV 1 hts gX10_causedBy_X10_isSpring rfl rfl rfl (by decide +kernel) ⟨Nat.le_of_ble_eq_true rfl, Nat.le_of_ble_eq_true rfl⟩) (va_recv hK (y_one hMo) (ci := 10) rfl (q0 := 0) rfl) ⟨rfl, hMo, hH⟩ hK hN hX zw_nest_ok rfl hl.1 rfl (Nat.le_of_ble_eq_true rfl) dX10_causedBy_7 ⟨Nat.le_of_ble_eq_true rfl, Nat.le_of_ble_eq_true rfl⟩ hS (yA_mono (by have b0 := hS.1; omega)) (fun H locs hB1 oq1 hz1 hS => ?_)
  obtain ⟨hMo, hH⟩ := hB1
  refine lv_if_eq (tgt := 21) hx hb dX10_causedBy_10 (by decide) (fun _ => ?_) (fun c9 => absurd c9 (by decide))
  refine lv_aload_n hx hb dX10_causedBy_21 rfl (lv_at hl 0 rfl) ?_
  refine lv_iconst (v := 1) hx hb dX10_causedBy_22 (by decide) ?_
  refine y_cVi (D := (dC, dI)) (cl := vwCl) (tys := yt ca) (nw := zw_nest) (C := RX10) (As := [.int 1]) (rest := []) ⟨hx, hb, hml, hown, hts⟩ (m_X10_refuse l dC dI ca mo H.size ad hI hm 0 sm 1 ) (cwV 1 hts gX10_causedBy_X10_refuse rfl rfl rfl (by decide +kernel) ⟨Nat.le_of_ble_eq_true rfl, Nat.le_of_ble_eq_true rfl⟩) (va_recv hK (y_one hMo) (ci := 10) rfl (q0 := 0) rfl) ⟨rfl, hMo, hH⟩ hK hN hX zw_nest_ok rfl hl.1 rfl (Nat.le_of_ble_eq_true rfl) dX10_causedBy_23 ⟨Nat.le_of_ble_eq_true rfl, Nat.le_of_ble_eq_true rfl⟩ hS (yA_mono (by have b0 := hS.1; omega)) (fun H locs hB1 oq1 hz1 hS => ?_)
  obtain ⟨hMo, hH⟩ := hB1
  refine W.widen (k := 0) (n := 0) (Nat.le_of_ble_eq_true rfl) (Nat.le_of_ble_eq_true rfl) ?_
  exact W.iret (v := 0) hx hb hr (fun t ht hW => ⟨⟨0, (), rfl, rfl, z_to (B := (fun H => yMo dC dI mo 1 (ad 0) sm H ∧ yW dC dI ca ad (yM 0) H)) ht ⟨hMo, hH⟩⟩, hS.F ht⟩) hS.2.2 dX10_causedBy_26
set_option maxHeartbeats 4000000 in
set_option maxRecDepth 100000 in
theorem m_X10_turbiney (l : Launch) (dC : Nat → ClassId) (dI : Nat → Nat → Nat) (ca : Nat → ClassId) (mo sz : Nat) (ad : Nat → Nat) (hI : z_I yd ad) (hm : ∀ i, yd.1 i < 200 → ad i ≠ mo) (th : Int32) (sm : Int64) (a1 : Int32) (h : z_rg a1 0 99): Met l yX10_turbine wsX10_turbine ({ frames := 1, cells := 0, slots := 0, locals := 22 }) (z_Py (dC, dI) vwCl (yt ca) zw_nest [.ref mo, .int a1] (fun H => H.size = sz ∧ yMo dC dI mo th (ad 0) sm H ∧ yW dC dI ca ad (yM 0) H)) (z_Qi 20 (fun H => yMo dC dI mo 0 (ad 0) sm H) (yA mo ad sz)) 0 0 (yA mo ad sz) := by
  refine Met.ofW (cc := cX10_turbine) (maxL := 3) (ret := (some .int)) (by decide) rfl ?_
  intro p e s m args below meth c s₁ B9 hml hv
  obtain ⟨rfl, ⟨hz, hMo, hH⟩, hK, hN, hX⟩ := hv
  have hx := B9.exec
  have hb := B9.bytes
  have hr := B9.returns
  have hts := atoms_spec (ws := wsX10_turbine) B9.pre
  have hown : s.vm.findClass RX10 = some m.cls := findClass_of_methodNamed B9.named
  have hlocks := B9.notSynchronized
  have hS : va_S (yA mo ad sz) s.heap s.heap [] := va_S.rf
  have hba : ∀ i, yd.1 i < 200 → ad i < sz := fun i hi => by have b0 := hH.lt hi; omega
  have hbm : mo < sz := by have b0 := va_at.lt hMo; exact hz ▸ b0
  have hAs : ∀ q, s.heap.size ≤ q → (yA mo ad sz) q := fun q h => Or.inr (Or.inr (hz ▸ h))
  have hinX10 : ∀ w ∈ u_ws RX10 TX10 3, w ∈ wsX10_turbine := by decide +kernel
  have hinX9 : ∀ w ∈ u_ws RX9 TX9 24, w ∈ wsX10_turbine := by decide +kernel
  have hl := lv_entry ([.ref mo, .int a1]) (n := 3) (Nat.le_of_ble_eq_true rfl)
  rw [lg_entry_eq]
  generalize (lg_sl ([.ref mo, .int a1]) ++ List.replicate (3 - (lg_sl ([.ref mo, .int a1])).length) Slot.unset).toArray = ls at hl ⊢
  have hl : lv_has ls 3 [(0, .ref mo), (1, .int a1)] := hl
  refine lv_aload_n hx hb dX10_turbine_0 rfl (lv_at hl 0 rfl) ?_
  refine lv_iconst (v := 0) hx hb dX10_turbine_1 (by decide) ?_
  refine yo_put (D := (dC, dI)) (cl := vwCl) (C := RX10) (T := TX10) (N := 3) (ci := 10) (ty := .int) hx hb hts hinX10 tyX10 tyX10_ok nmX10 hown hK hMo hS (Or.inl rfl) rfl 0 (by decide) (hts (.fieldLink RX10 16 "SteamfieldModel" "thrown" "I") (by decide +kernel)) (fun _ h9 => h9) rfl (by decide +kernel) rfl rfl (show 0 < 3 by decide) dX10_turbine_2 (fun H locs hMo z9 oq hS => ?_)
  have hMo : yMo dC dI mo 0 (ad 0) sm H := hMo
  have hH := hH.kept (fun i hi => oq _ (hm i hi))
  refine lv_iload_n hx hb dX10_turbine_5 rfl (lv_at hl 1 rfl) ?_
  refine lv_iconst (v := 0) hx hb dX10_turbine_6 (by decide) ?_
  refine lv_bipush (v := 99) hx hb dX10_turbine_7 (by decide) ?_
  refine y_cSi (D := (dC, dI)) (cl := vwCl) (tys := yt ca) (nw := zw_nest) (As := [.int a1, .int 0, .int 99]) (rest := []) ⟨hx, hb, hml, hown, hts⟩ (m_X10_isy l dC dI ca (fun z : Heap => z = H) a1 0 99 h) (cwS 3 hts gX10_turbine_X10_is rfl rfl rfl (by decide +kernel) ⟨Nat.le_of_ble_eq_true rfl, Nat.le_of_ble_eq_true rfl⟩) rfl hK hN hX zw_nest_ok rfl hl.1 rfl (Nat.le_of_ble_eq_true rfl) dX10_turbine_9 ⟨Nat.le_of_ble_eq_true rfl, Nat.le_of_ble_eq_true rfl⟩ hS (fun _ h => h.elim) (fun H locs hB1 oq1 hz1 hS => ?_)
  have hH : z_H (dC, dI) vwCl yf ca yd ad (yM 0) H := by rw [hB1]; exact hH
  have hMo : yMo dC dI mo 0 (ad 0) sm H := by rw [hB1]; exact hMo
  refine lv_if_ne (tgt := 21) hx hb dX10_turbine_12 (by decide) (fun _ => ?_) (fun c9 => absurd c9 (by decide))
  refine lv_aload_n hx hb dX10_turbine_21 rfl (lv_at hl 0 rfl) ?_
  refine yo_get (D := (dC, dI)) (cl := vwCl) (C := RX10) (T := TX10) (N := 3) (ci := 10) (v := .ref (ad 0)) hx hb hts hinX10 hown hK hMo rfl 1 (by decide) (hts (.fieldLink RX10 10 "SteamfieldModel" "field" "LSteamfieldModel$Field;") (by decide +kernel)) (fun _ h9 => h9) rfl dX10_turbine_22 ?_
  refine z_giN (D := (dC, dI)) (cl := vwCl) (C := RX9) (T := TX9) (N := 24) (ci := 9) (k := 14) hx hb hts hinX9 hown hK hH (i := 0) yk_0 (by decide) rfl (by decide) rfl (hN (.fieldLinkNest RX10 67 "SteamfieldModel$Field" "size" "I" "SteamfieldModel") (by decide +kernel)) (fun _ h9 => h9) dX10_turbine_25 ?_
  refine y_num (b := 20) rfl ?_
  refine lv_istore_n (lv' := [(2, .int 20), (0, .ref mo), (1, .int a1)]) hx hb dX10_turbine_28 rfl hl (by decide) rfl (fun ls hl => ?_)
  refine lv_aload_n hx hb dX10_turbine_29 rfl (lv_at hl 1 rfl) ?_
  refine yo_get (D := (dC, dI)) (cl := vwCl) (C := RX10) (T := TX10) (N := 3) (ci := 10) (v := .ref (ad 0)) hx hb hts hinX10 hown hK hMo rfl 1 (by decide) (hts (.fieldLink RX10 10 "SteamfieldModel" "field" "LSteamfieldModel$Field;") (by decide +kernel)) (fun _ h9 => h9) rfl dX10_turbine_30 ?_
  refine lv_iload_n hx hb dX10_turbine_33 rfl (lv_at hl 2 rfl) ?_
  refine zp_iN (D := (dC, dI)) (cl := vwCl) (C := RX9) (T := TX9) (N := 24) (ci := 9) (k := 14) (ty := .int) hx hb hts hinX9 tyX9 tyX9_ok nmX9 hown hK hH hI hS (fun _ h => Or.inr (Or.inl h)) (i := 0) yk_0 (by decide) rfl (by decide) rfl (hN (.fieldLinkNest RX10 67 "SteamfieldModel$Field" "size" "I" "SteamfieldModel") (by decide +kernel)) (fun _ h9 => h9) rfl (by decide +kernel) rfl rfl dX10_turbine_34 (fun H locs hH oq hS => ?_)
  have hMo := va_at.kept hMo (oq _ (hm 0 (by rw [yk_0]; decide)).symm)
  refine lv_aload_n hx hb dX10_turbine_37 rfl (lv_at hl 1 rfl) ?_
  refine yo_get (D := (dC, dI)) (cl := vwCl) (C := RX10) (T := TX10) (N := 3) (ci := 10) (v := .ref (ad 0)) hx hb hts hinX10 hown hK hMo rfl 1 (by decide) (hts (.fieldLink RX10 10 "SteamfieldModel" "field" "LSteamfieldModel$Field;") (by decide +kernel)) (fun _ h9 => h9) rfl dX10_turbine_38 ?_
  refine lv_iconst (v := 1) hx hb dX10_turbine_41 (by decide) ?_
  refine zp_iN (D := (dC, dI)) (cl := vwCl) (C := RX9) (T := TX9) (N := 24) (ci := 9) (k := 16) (ty := .boolean) hx hb hts hinX9 tyX9 tyX9_ok nmX9 hown hK hH hI hS (fun _ h => Or.inr (Or.inl h)) (i := 0) yk_0 (by decide) rfl (by decide) rfl (hN (.fieldLinkNest RX10 70 "SteamfieldModel$Field" "runs" "Z" "SteamfieldModel") (by decide +kernel)) (fun _ h9 => h9) rfl (by decide +kernel) (by decide) (by decide) dX10_turbine_42 (fun H locs hH oq hS => ?_)
  rw [zu_same (show (zu (yM 0) 0 14 a1) 0 16 = 1 from rfl)] at hH
  have hMo := va_at.kept hMo (oq _ (hm 0 (by rw [yk_0]; decide)).symm)
  refine lv_iload_n hx hb dX10_turbine_45 rfl (lv_at hl 0 rfl) ?_
  refine W.widen (k := 0) (n := 0) (Nat.le_of_ble_eq_true rfl) (Nat.le_of_ble_eq_true rfl) ?_
  exact W.iret (v := 20) hx hb hr (fun t ht hW => ⟨⟨20, (), rfl, rfl, z_to (B := (fun H => yMo dC dI mo 0 (ad 0) sm H)) ht hMo⟩, hS.F ht⟩) hS.2.2 dX10_turbine_46
set_option maxHeartbeats 4000000 in
set_option maxRecDepth 100000 in
theorem m_X10_turbinen (l : Launch) (dC : Nat → ClassId) (dI : Nat → Nat → Nat) (ca : Nat → ClassId) (mo sz : Nat) (ad : Nat → Nat) (hI : z_I yd ad) (hm : ∀ i, yd.1 i < 200 → ad i ≠ mo) (th : Int32) (sm : Int64) (a1 : Int32) (h : ¬ z_rg a1 0 99): Met l yX10_turbine wsX10_turbine ({ frames := 1, cells := 0, slots := 0, locals := 22 }) (z_Py (dC, dI) vwCl (yt ca) zw_nest [.ref mo, .int a1] (fun H => H.size = sz ∧ yMo dC dI mo th (ad 0) sm H ∧ yW dC dI ca ad (yM 0) H)) (z_Qi 0 (fun H => yMo dC dI mo 1 (ad 0) sm H ∧ yW dC dI ca ad (yM 0) H) (yA mo ad sz)) 0 0 (yA mo ad sz) := by
  refine Met.ofW (cc := cX10_turbine) (maxL := 3) (ret := (some .int)) (by decide) rfl ?_
  intro p e s m args below meth c s₁ B9 hml hv
  obtain ⟨rfl, ⟨hz, hMo, hH⟩, hK, hN, hX⟩ := hv
  have hx := B9.exec
  have hb := B9.bytes
  have hr := B9.returns
  have hts := atoms_spec (ws := wsX10_turbine) B9.pre
  have hown : s.vm.findClass RX10 = some m.cls := findClass_of_methodNamed B9.named
  have hlocks := B9.notSynchronized
  have hS : va_S (yA mo ad sz) s.heap s.heap [] := va_S.rf
  have hba : ∀ i, yd.1 i < 200 → ad i < sz := fun i hi => by have b0 := hH.lt hi; omega
  have hbm : mo < sz := by have b0 := va_at.lt hMo; exact hz ▸ b0
  have hAs : ∀ q, s.heap.size ≤ q → (yA mo ad sz) q := fun q h => Or.inr (Or.inr (hz ▸ h))
  have hinX10 : ∀ w ∈ u_ws RX10 TX10 3, w ∈ wsX10_turbine := by decide +kernel
  have hl := lv_entry ([.ref mo, .int a1]) (n := 3) (Nat.le_of_ble_eq_true rfl)
  rw [lg_entry_eq]
  generalize (lg_sl ([.ref mo, .int a1]) ++ List.replicate (3 - (lg_sl ([.ref mo, .int a1])).length) Slot.unset).toArray = ls at hl ⊢
  have hl : lv_has ls 3 [(0, .ref mo), (1, .int a1)] := hl
  refine lv_aload_n hx hb dX10_turbine_0 rfl (lv_at hl 0 rfl) ?_
  refine lv_iconst (v := 0) hx hb dX10_turbine_1 (by decide) ?_
  refine yo_put (D := (dC, dI)) (cl := vwCl) (C := RX10) (T := TX10) (N := 3) (ci := 10) (ty := .int) hx hb hts hinX10 tyX10 tyX10_ok nmX10 hown hK hMo hS (Or.inl rfl) rfl 0 (by decide) (hts (.fieldLink RX10 16 "SteamfieldModel" "thrown" "I") (by decide +kernel)) (fun _ h9 => h9) rfl (by decide +kernel) rfl rfl (show 0 < 3 by decide) dX10_turbine_2 (fun H locs hMo z9 oq hS => ?_)
  have hMo : yMo dC dI mo 0 (ad 0) sm H := hMo
  have hH := hH.kept (fun i hi => oq _ (hm i hi))
  refine lv_iload_n hx hb dX10_turbine_5 rfl (lv_at hl 1 rfl) ?_
  refine lv_iconst (v := 0) hx hb dX10_turbine_6 (by decide) ?_
  refine lv_bipush (v := 99) hx hb dX10_turbine_7 (by decide) ?_
  refine y_cSi (D := (dC, dI)) (cl := vwCl) (tys := yt ca) (nw := zw_nest) (As := [.int a1, .int 0, .int 99]) (rest := []) ⟨hx, hb, hml, hown, hts⟩ (m_X10_isn l dC dI ca (fun z : Heap => z = H) a1 0 99 h) (cwS 3 hts gX10_turbine_X10_is rfl rfl rfl (by decide +kernel) ⟨Nat.le_of_ble_eq_true rfl, Nat.le_of_ble_eq_true rfl⟩) rfl hK hN hX zw_nest_ok rfl hl.1 rfl (Nat.le_of_ble_eq_true rfl) dX10_turbine_9 ⟨Nat.le_of_ble_eq_true rfl, Nat.le_of_ble_eq_true rfl⟩ hS (fun _ h => h.elim) (fun H locs hB1 oq1 hz1 hS => ?_)
  have hH : z_H (dC, dI) vwCl yf ca yd ad (yM 0) H := by rw [hB1]; exact hH
  have hMo : yMo dC dI mo 0 (ad 0) sm H := by rw [hB1]; exact hMo
  refine lv_if_ne (tgt := 21) hx hb dX10_turbine_12 (by decide) (fun c9 => absurd c9 (by decide)) (fun _ => ?_)
  refine lv_aload_n hx hb dX10_turbine_15 rfl (lv_at hl 0 rfl) ?_
  refine lv_iconst (v := 1) hx hb dX10_turbine_16 (by decide) ?_
  refine y_cVi (D := (dC, dI)) (cl := vwCl) (tys := yt ca) (nw := zw_nest) (C := RX10) (As := [.int 1]) (rest := []) ⟨hx, hb, hml, hown, hts⟩ (m_X10_refuse l dC dI ca mo H.size ad hI hm 0 sm 1 ) (cwV 1 hts gX10_turbine_X10_refuse rfl rfl rfl (by decide +kernel) ⟨Nat.le_of_ble_eq_true rfl, Nat.le_of_ble_eq_true rfl⟩) (va_recv hK (y_one hMo) (ci := 10) rfl (q0 := 0) rfl) ⟨rfl, hMo, hH⟩ hK hN hX zw_nest_ok rfl hl.1 rfl (Nat.le_of_ble_eq_true rfl) dX10_turbine_17 ⟨Nat.le_of_ble_eq_true rfl, Nat.le_of_ble_eq_true rfl⟩ hS (yA_mono (by have b0 := hS.1; omega)) (fun H locs hB1 oq1 hz1 hS => ?_)
  obtain ⟨hMo, hH⟩ := hB1
  refine W.widen (k := 0) (n := 0) (Nat.le_of_ble_eq_true rfl) (Nat.le_of_ble_eq_true rfl) ?_
  exact W.iret (v := 0) hx hb hr (fun t ht hW => ⟨⟨0, (), rfl, rfl, z_to (B := (fun H => yMo dC dI mo 1 (ad 0) sm H ∧ yW dC dI ca ad (yM 0) H)) ht ⟨hMo, hH⟩⟩, hS.F ht⟩) hS.2.2 dX10_turbine_20
set_option maxHeartbeats 4000000 in
set_option maxRecDepth 100000 in
theorem m_X10_towny (l : Launch) (dC : Nat → ClassId) (dI : Nat → Nat → Nat) (ca : Nat → ClassId) (mo sz : Nat) (ad : Nat → Nat) (hI : z_I yd ad) (hm : ∀ i, yd.1 i < 200 → ad i ≠ mo) (th : Int32) (sm : Int64) (a1 : Int32) (h : z_rg a1 0 999): Met l yX10_town wsX10_town ({ frames := 1, cells := 0, slots := 0, locals := 22 }) (z_Py (dC, dI) vwCl (yt ca) zw_nest [.ref mo, .int a1] (fun H => H.size = sz ∧ yMo dC dI mo th (ad 0) sm H ∧ yW dC dI ca ad (yM 0) H)) (z_Qi 0 (fun H => yMo dC dI mo 0 (ad 0) sm H) (yA mo ad sz)) 0 0 (yA mo ad sz) := by
  refine Met.ofW (cc := cX10_town) (maxL := 3) (ret := (some .int)) (by decide) rfl ?_
  intro p e s m args below meth c s₁ B9 hml hv
  obtain ⟨rfl, ⟨hz, hMo, hH⟩, hK, hN, hX⟩ := hv
  have hx := B9.exec
  have hb := B9.bytes
  have hr := B9.returns
  have hts := atoms_spec (ws := wsX10_town) B9.pre
  have hown : s.vm.findClass RX10 = some m.cls := findClass_of_methodNamed B9.named
  have hlocks := B9.notSynchronized
  have hS : va_S (yA mo ad sz) s.heap s.heap [] := va_S.rf
  have hba : ∀ i, yd.1 i < 200 → ad i < sz := fun i hi => by have b0 := hH.lt hi; omega
  have hbm : mo < sz := by have b0 := va_at.lt hMo; exact hz ▸ b0
  have hAs : ∀ q, s.heap.size ≤ q → (yA mo ad sz) q := fun q h => Or.inr (Or.inr (hz ▸ h))
  have hinX10 : ∀ w ∈ u_ws RX10 TX10 3, w ∈ wsX10_town := by decide +kernel
  have hinX9 : ∀ w ∈ u_ws RX9 TX9 24, w ∈ wsX10_town := by decide +kernel
  have hl := lv_entry ([.ref mo, .int a1]) (n := 3) (Nat.le_of_ble_eq_true rfl)
  rw [lg_entry_eq]
  generalize (lg_sl ([.ref mo, .int a1]) ++ List.replicate (3 - (lg_sl ([.ref mo, .int a1])).length) Slot.unset).toArray = ls at hl ⊢
  have hl : lv_has ls 3 [(0, .ref mo), (1, .int a1)] := hl
  refine lv_aload_n hx hb dX10_town_0 rfl (lv_at hl 0 rfl) ?_
  refine lv_iconst (v := 0) hx hb dX10_town_1 (by decide) ?_
  refine yo_put (D := (dC, dI)) (cl := vwCl) (C := RX10) (T := TX10) (N := 3) (ci := 10) (ty := .int) hx hb hts hinX10 tyX10 tyX10_ok nmX10 hown hK hMo hS (Or.inl rfl) rfl 0 (by decide) (hts (.fieldLink RX10 16 "SteamfieldModel" "thrown" "I") (by decide +kernel)) (fun _ h9 => h9) rfl (by decide +kernel) rfl rfl (show 0 < 3 by decide) dX10_town_2 (fun H locs hMo z9 oq hS => ?_)
  have hMo : yMo dC dI mo 0 (ad 0) sm H := hMo
  have hH := hH.kept (fun i hi => oq _ (hm i hi))
  refine lv_iload_n hx hb dX10_town_5 rfl (lv_at hl 1 rfl) ?_
  refine lv_iconst (v := 0) hx hb dX10_town_6 (by decide) ?_
  refine lv_sipush (v := 999) hx hb dX10_town_7 (by decide) ?_
  refine y_cSi (D := (dC, dI)) (cl := vwCl) (tys := yt ca) (nw := zw_nest) (As := [.int a1, .int 0, .int 999]) (rest := []) ⟨hx, hb, hml, hown, hts⟩ (m_X10_isy l dC dI ca (fun z : Heap => z = H) a1 0 999 h) (cwS 3 hts gX10_town_X10_is rfl rfl rfl (by decide +kernel) ⟨Nat.le_of_ble_eq_true rfl, Nat.le_of_ble_eq_true rfl⟩) rfl hK hN hX zw_nest_ok rfl hl.1 rfl (Nat.le_of_ble_eq_true rfl) dX10_town_10 ⟨Nat.le_of_ble_eq_true rfl, Nat.le_of_ble_eq_true rfl⟩ hS (fun _ h => h.elim) (fun H locs hB1 oq1 hz1 hS => ?_)
  have hH : z_H (dC, dI) vwCl yf ca yd ad (yM 0) H := by rw [hB1]; exact hH
  have hMo : yMo dC dI mo 0 (ad 0) sm H := by rw [hB1]; exact hMo
  refine lv_if_ne (tgt := 22) hx hb dX10_town_13 (by decide) (fun _ => ?_) (fun c9 => absurd c9 (by decide))
  refine lv_aload_n hx hb dX10_town_22 rfl (lv_at hl 0 rfl) ?_
  refine yo_get (D := (dC, dI)) (cl := vwCl) (C := RX10) (T := TX10) (N := 3) (ci := 10) (v := .ref (ad 0)) hx hb hts hinX10 hown hK hMo rfl 1 (by decide) (hts (.fieldLink RX10 10 "SteamfieldModel" "field" "LSteamfieldModel$Field;") (by decide +kernel)) (fun _ h9 => h9) rfl dX10_town_23 ?_
  refine z_giN (D := (dC, dI)) (cl := vwCl) (C := RX9) (T := TX9) (N := 24) (ci := 9) (k := 15) hx hb hts hinX9 hown hK hH (i := 0) yk_0 (by decide) rfl (by decide) rfl (hN (.fieldLinkNest RX10 74 "SteamfieldModel$Field" "need" "I" "SteamfieldModel") (by decide +kernel)) (fun _ h9 => h9) dX10_town_26 ?_
  refine y_num (b := 0) rfl ?_
  refine lv_istore_n (lv' := [(2, .int 0), (0, .ref mo), (1, .int a1)]) hx hb dX10_town_29 rfl hl (by decide) rfl (fun ls hl => ?_)
  refine lv_aload_n hx hb dX10_town_30 rfl (lv_at hl 1 rfl) ?_
  refine yo_get (D := (dC, dI)) (cl := vwCl) (C := RX10) (T := TX10) (N := 3) (ci := 10) (v := .ref (ad 0)) hx hb hts hinX10 hown hK hMo rfl 1 (by decide) (hts (.fieldLink RX10 10 "SteamfieldModel" "field" "LSteamfieldModel$Field;") (by decide +kernel)) (fun _ h9 => h9) rfl dX10_town_31 ?_
  refine lv_iload_n hx hb dX10_town_34 rfl (lv_at hl 2 rfl) ?_
  refine zp_iN (D := (dC, dI)) (cl := vwCl) (C := RX9) (T := TX9) (N := 24) (ci := 9) (k := 15) (ty := .int) hx hb hts hinX9 tyX9 tyX9_ok nmX9 hown hK hH hI hS (fun _ h => Or.inr (Or.inl h)) (i := 0) yk_0 (by decide) rfl (by decide) rfl (hN (.fieldLinkNest RX10 74 "SteamfieldModel$Field" "need" "I" "SteamfieldModel") (by decide +kernel)) (fun _ h9 => h9) rfl (by decide +kernel) rfl rfl dX10_town_35 (fun H locs hH oq hS => ?_)
  have hMo := va_at.kept hMo (oq _ (hm 0 (by rw [yk_0]; decide)).symm)
  refine lv_iload_n hx hb dX10_town_38 rfl (lv_at hl 0 rfl) ?_
  refine W.widen (k := 0) (n := 0) (Nat.le_of_ble_eq_true rfl) (Nat.le_of_ble_eq_true rfl) ?_
  exact W.iret (v := 0) hx hb hr (fun t ht hW => ⟨⟨0, (), rfl, rfl, z_to (B := (fun H => yMo dC dI mo 0 (ad 0) sm H)) ht hMo⟩, hS.F ht⟩) hS.2.2 dX10_town_39
set_option maxHeartbeats 4000000 in
set_option maxRecDepth 100000 in
theorem m_X10_townn (l : Launch) (dC : Nat → ClassId) (dI : Nat → Nat → Nat) (ca : Nat → ClassId) (mo sz : Nat) (ad : Nat → Nat) (hI : z_I yd ad) (hm : ∀ i, yd.1 i < 200 → ad i ≠ mo) (th : Int32) (sm : Int64) (a1 : Int32) (h : ¬ z_rg a1 0 999): Met l yX10_town wsX10_town ({ frames := 1, cells := 0, slots := 0, locals := 22 }) (z_Py (dC, dI) vwCl (yt ca) zw_nest [.ref mo, .int a1] (fun H => H.size = sz ∧ yMo dC dI mo th (ad 0) sm H ∧ yW dC dI ca ad (yM 0) H)) (z_Qi 0 (fun H => yMo dC dI mo 1 (ad 0) sm H ∧ yW dC dI ca ad (yM 0) H) (yA mo ad sz)) 0 0 (yA mo ad sz) := by
  refine Met.ofW (cc := cX10_town) (maxL := 3) (ret := (some .int)) (by decide) rfl ?_
  intro p e s m args below meth c s₁ B9 hml hv
  obtain ⟨rfl, ⟨hz, hMo, hH⟩, hK, hN, hX⟩ := hv
  have hx := B9.exec
  have hb := B9.bytes
  have hr := B9.returns
  have hts := atoms_spec (ws := wsX10_town) B9.pre
  have hown : s.vm.findClass RX10 = some m.cls := findClass_of_methodNamed B9.named
  have hlocks := B9.notSynchronized
  have hS : va_S (yA mo ad sz) s.heap s.heap [] := va_S.rf
  have hba : ∀ i, yd.1 i < 200 → ad i < sz := fun i hi => by have b0 := hH.lt hi; omega
  have hbm : mo < sz := by have b0 := va_at.lt hMo; exact hz ▸ b0
  have hAs : ∀ q, s.heap.size ≤ q → (yA mo ad sz) q := fun q h => Or.inr (Or.inr (hz ▸ h))
  have hinX10 : ∀ w ∈ u_ws RX10 TX10 3, w ∈ wsX10_town := by decide +kernel
  have hl := lv_entry ([.ref mo, .int a1]) (n := 3) (Nat.le_of_ble_eq_true rfl)
  rw [lg_entry_eq]
  generalize (lg_sl ([.ref mo, .int a1]) ++ List.replicate (3 - (lg_sl ([.ref mo, .int a1])).length) Slot.unset).toArray = ls at hl ⊢
  have hl : lv_has ls 3 [(0, .ref mo), (1, .int a1)] := hl
  refine lv_aload_n hx hb dX10_town_0 rfl (lv_at hl 0 rfl) ?_
  refine lv_iconst (v := 0) hx hb dX10_town_1 (by decide) ?_
  refine yo_put (D := (dC, dI)) (cl := vwCl) (C := RX10) (T := TX10) (N := 3) (ci := 10) (ty := .int) hx hb hts hinX10 tyX10 tyX10_ok nmX10 hown hK hMo hS (Or.inl rfl) rfl 0 (by decide) (hts (.fieldLink RX10 16 "SteamfieldModel" "thrown" "I") (by decide +kernel)) (fun _ h9 => h9) rfl (by decide +kernel) rfl rfl (show 0 < 3 by decide) dX10_town_2 (fun H locs hMo z9 oq hS => ?_)
  have hMo : yMo dC dI mo 0 (ad 0) sm H := hMo
  have hH := hH.kept (fun i hi => oq _ (hm i hi))
  refine lv_iload_n hx hb dX10_town_5 rfl (lv_at hl 1 rfl) ?_
  refine lv_iconst (v := 0) hx hb dX10_town_6 (by decide) ?_
  refine lv_sipush (v := 999) hx hb dX10_town_7 (by decide) ?_
  refine y_cSi (D := (dC, dI)) (cl := vwCl) (tys := yt ca) (nw := zw_nest) (As := [.int a1, .int 0, .int 999]) (rest := []) ⟨hx, hb, hml, hown, hts⟩ (m_X10_isn l dC dI ca (fun z : Heap => z = H) a1 0 999 h) (cwS 3 hts gX10_town_X10_is rfl rfl rfl (by decide +kernel) ⟨Nat.le_of_ble_eq_true rfl, Nat.le_of_ble_eq_true rfl⟩) rfl hK hN hX zw_nest_ok rfl hl.1 rfl (Nat.le_of_ble_eq_true rfl) dX10_town_10 ⟨Nat.le_of_ble_eq_true rfl, Nat.le_of_ble_eq_true rfl⟩ hS (fun _ h => h.elim) (fun H locs hB1 oq1 hz1 hS => ?_)
  have hH : z_H (dC, dI) vwCl yf ca yd ad (yM 0) H := by rw [hB1]; exact hH
  have hMo : yMo dC dI mo 0 (ad 0) sm H := by rw [hB1]; exact hMo
  refine lv_if_ne (tgt := 22) hx hb dX10_town_13 (by decide) (fun c9 => absurd c9 (by decide)) (fun _ => ?_)
  refine lv_aload_n hx hb dX10_town_16 rfl (lv_at hl 0 rfl) ?_
  refine lv_iconst (v := 1) hx hb dX10_town_17 (by decide) ?_
  refine y_cVi (D := (dC, dI)) (cl := vwCl) (tys := yt ca) (nw := zw_nest) (C := RX10) (As := [.int 1]) (rest := []) ⟨hx, hb, hml, hown, hts⟩ (m_X10_refuse l dC dI ca mo H.size ad hI hm 0 sm 1 ) (cwV 1 hts gX10_town_X10_refuse rfl rfl rfl (by decide +kernel) ⟨Nat.le_of_ble_eq_true rfl, Nat.le_of_ble_eq_true rfl⟩) (va_recv hK (y_one hMo) (ci := 10) rfl (q0 := 0) rfl) ⟨rfl, hMo, hH⟩ hK hN hX zw_nest_ok rfl hl.1 rfl (Nat.le_of_ble_eq_true rfl) dX10_town_18 ⟨Nat.le_of_ble_eq_true rfl, Nat.le_of_ble_eq_true rfl⟩ hS (yA_mono (by have b0 := hS.1; omega)) (fun H locs hB1 oq1 hz1 hS => ?_)
  obtain ⟨hMo, hH⟩ := hB1
  refine W.widen (k := 0) (n := 0) (Nat.le_of_ble_eq_true rfl) (Nat.le_of_ble_eq_true rfl) ?_
  exact W.iret (v := 0) hx hb hr (fun t ht hW => ⟨⟨0, (), rfl, rfl, z_to (B := (fun H => yMo dC dI mo 1 (ad 0) sm H ∧ yW dC dI ca ad (yM 0) H)) ht ⟨hMo, hH⟩⟩, hS.F ht⟩) hS.2.2 dX10_town_21
set_option maxHeartbeats 4000000 in
set_option maxRecDepth 100000 in
theorem m_X10_pondy (l : Launch) (dC : Nat → ClassId) (dI : Nat → Nat → Nat) (ca : Nat → ClassId) (mo sz : Nat) (ad : Nat → Nat) (hI : z_I yd ad) (hm : ∀ i, yd.1 i < 200 → ad i ≠ mo) (th : Int32) (sm : Int64) (a1 : Int32) (h : z_rg a1 0 3): Met l yX10_pond wsX10_pond ({ frames := 1, cells := 0, slots := 0, locals := 22 }) (z_Py (dC, dI) vwCl (yt ca) zw_nest [.ref mo, .int a1] (fun H => H.size = sz ∧ yMo dC dI mo th (ad 0) sm H ∧ yW dC dI ca ad (yM 0) H)) (z_Qi 0 (fun H => yMo dC dI mo 0 (ad 0) sm H ∧ yW dC dI ca ad (yM 0) H) (yA mo ad sz)) 0 0 (yA mo ad sz) := by
  refine Met.ofW (cc := cX10_pond) (maxL := 2) (ret := (some .int)) (by decide) rfl ?_
  intro p e s m args below meth c s₁ B9 hml hv
  obtain ⟨rfl, ⟨hz, hMo, hH⟩, hK, hN, hX⟩ := hv
  have hx := B9.exec
  have hb := B9.bytes
  have hr := B9.returns
  have hts := atoms_spec (ws := wsX10_pond) B9.pre
  have hown : s.vm.findClass RX10 = some m.cls := findClass_of_methodNamed B9.named
  have hlocks := B9.notSynchronized
  have hS : va_S (yA mo ad sz) s.heap s.heap [] := va_S.rf
  have hba : ∀ i, yd.1 i < 200 → ad i < sz := fun i hi => by have b0 := hH.lt hi; omega
  have hbm : mo < sz := by have b0 := va_at.lt hMo; exact hz ▸ b0
  have hAs : ∀ q, s.heap.size ≤ q → (yA mo ad sz) q := fun q h => Or.inr (Or.inr (hz ▸ h))
  have hinX10 : ∀ w ∈ u_ws RX10 TX10 3, w ∈ wsX10_pond := by decide +kernel
  have hinX9 : ∀ w ∈ u_ws RX9 TX9 24, w ∈ wsX10_pond := by decide +kernel
  have hl := lv_entry ([.ref mo, .int a1]) (n := 2) (Nat.le_of_ble_eq_true rfl)
  rw [lg_entry_eq]
  generalize (lg_sl ([.ref mo, .int a1]) ++ List.replicate (2 - (lg_sl ([.ref mo, .int a1])).length) Slot.unset).toArray = ls at hl ⊢
  have hl : lv_has ls 2 [(0, .ref mo), (1, .int a1)] := hl
  refine lv_aload_n hx hb dX10_pond_0 rfl (lv_at hl 0 rfl) ?_
  refine lv_iconst (v := 0) hx hb dX10_pond_1 (by decide) ?_
  refine yo_put (D := (dC, dI)) (cl := vwCl) (C := RX10) (T := TX10) (N := 3) (ci := 10) (ty := .int) hx hb hts hinX10 tyX10 tyX10_ok nmX10 hown hK hMo hS (Or.inl rfl) rfl 0 (by decide) (hts (.fieldLink RX10 16 "SteamfieldModel" "thrown" "I") (by decide +kernel)) (fun _ h9 => h9) rfl (by decide +kernel) rfl rfl (show 0 < 3 by decide) dX10_pond_2 (fun H locs hMo z9 oq hS => ?_)
  have hMo : yMo dC dI mo 0 (ad 0) sm H := hMo
  have hH := hH.kept (fun i hi => oq _ (hm i hi))
  refine lv_iload_n hx hb dX10_pond_5 rfl (lv_at hl 1 rfl) ?_
  refine lv_iconst (v := 0) hx hb dX10_pond_6 (by decide) ?_
  refine lv_iconst (v := 3) hx hb dX10_pond_7 (by decide) ?_
  refine y_cSi (D := (dC, dI)) (cl := vwCl) (tys := yt ca) (nw := zw_nest) (As := [.int a1, .int 0, .int 3]) (rest := []) ⟨hx, hb, hml, hown, hts⟩ (m_X10_isy l dC dI ca (fun z : Heap => z = H) a1 0 3 h) (cwS 3 hts gX10_pond_X10_is rfl rfl rfl (by decide +kernel) ⟨Nat.le_of_ble_eq_true rfl, Nat.le_of_ble_eq_true rfl⟩) rfl hK hN hX zw_nest_ok rfl hl.1 rfl (Nat.le_of_ble_eq_true rfl) dX10_pond_8 ⟨Nat.le_of_ble_eq_true rfl, Nat.le_of_ble_eq_true rfl⟩ hS (fun _ h => h.elim) (fun H locs hB1 oq1 hz1 hS => ?_)
  have hH : z_H (dC, dI) vwCl yf ca yd ad (yM 0) H := by rw [hB1]; exact hH
  have hMo : yMo dC dI mo 0 (ad 0) sm H := by rw [hB1]; exact hMo
  refine lv_if_eq (tgt := 26) hx hb dX10_pond_11 (by decide) (fun c9 => absurd c9 (by decide)) (fun _ => ?_)
  refine lv_aload_n hx hb dX10_pond_14 rfl (lv_at hl 0 rfl) ?_
  refine yo_get (D := (dC, dI)) (cl := vwCl) (C := RX10) (T := TX10) (N := 3) (ci := 10) (v := .ref (ad 0)) hx hb hts hinX10 hown hK hMo rfl 1 (by decide) (hts (.fieldLink RX10 10 "SteamfieldModel" "field" "LSteamfieldModel$Field;") (by decide +kernel)) (fun _ h9 => h9) rfl dX10_pond_15 ?_
  refine z_grN (D := (dC, dI)) (cl := vwCl) (C := RX9) (T := TX9) (N := 24) (ci := 9) (k := 8) hx hb hts hinX9 hown hK hH (i := 0) yk_0 (by decide) rfl (by decide) rfl yr_8 (hN (.fieldLinkNest RX10 100 "SteamfieldModel$Field" "pond" "[I" "SteamfieldModel") (by decide +kernel)) (fun _ h9 => h9) dX10_pond_18 ?_
  refine lv_iload_n hx hb dX10_pond_21 rfl (lv_at hl 1 rfl) ?_
  refine z_al (t0 := 0) (D := (dC, dI)) (cl := vwCl) (tys := yt ca) hx hb hK hH (i := 34) yk_34 rfl (show vp_in a1 6 from z_ix.in (z_ix.mono (z_ix_rg h (by decide) (by decide)) (Nat.le_of_ble_eq_true rfl))) dX10_pond_22 ?_
  refine y_num (b := 0) rfl ?_
  refine lv_goto (tgt := 31) hx hb dX10_pond_23 (by decide) ?_
  refine W.widen (k := 0) (n := 0) (Nat.le_of_ble_eq_true rfl) (Nat.le_of_ble_eq_true rfl) ?_
  exact W.iret (v := 0) hx hb hr (fun t ht hW => ⟨⟨0, (), rfl, rfl, z_to (B := (fun H => yMo dC dI mo 0 (ad 0) sm H ∧ yW dC dI ca ad (yM 0) H)) ht ⟨hMo, hH⟩⟩, hS.F ht⟩) hS.2.2 dX10_pond_31
set_option maxHeartbeats 4000000 in
set_option maxRecDepth 100000 in
theorem m_X10_pondn (l : Launch) (dC : Nat → ClassId) (dI : Nat → Nat → Nat) (ca : Nat → ClassId) (mo sz : Nat) (ad : Nat → Nat) (hI : z_I yd ad) (hm : ∀ i, yd.1 i < 200 → ad i ≠ mo) (th : Int32) (sm : Int64) (a1 : Int32) (h : ¬ z_rg a1 0 3): Met l yX10_pond wsX10_pond ({ frames := 1, cells := 0, slots := 0, locals := 22 }) (z_Py (dC, dI) vwCl (yt ca) zw_nest [.ref mo, .int a1] (fun H => H.size = sz ∧ yMo dC dI mo th (ad 0) sm H ∧ yW dC dI ca ad (yM 0) H)) (z_Qi 0 (fun H => yMo dC dI mo 1 (ad 0) sm H ∧ yW dC dI ca ad (yM 0) H) (yA mo ad sz)) 0 0 (yA mo ad sz) := by
  refine Met.ofW (cc := cX10_pond) (maxL := 2) (ret := (some .int)) (by decide) rfl ?_
  intro p e s m args below meth c s₁ B9 hml hv
  obtain ⟨rfl, ⟨hz, hMo, hH⟩, hK, hN, hX⟩ := hv
  have hx := B9.exec
  have hb := B9.bytes
  have hr := B9.returns
  have hts := atoms_spec (ws := wsX10_pond) B9.pre
  have hown : s.vm.findClass RX10 = some m.cls := findClass_of_methodNamed B9.named
  have hlocks := B9.notSynchronized
  have hS : va_S (yA mo ad sz) s.heap s.heap [] := va_S.rf
  have hba : ∀ i, yd.1 i < 200 → ad i < sz := fun i hi => by have b0 := hH.lt hi; omega
  have hbm : mo < sz := by have b0 := va_at.lt hMo; exact hz ▸ b0
  have hAs : ∀ q, s.heap.size ≤ q → (yA mo ad sz) q := fun q h => Or.inr (Or.inr (hz ▸ h))
  have hinX10 : ∀ w ∈ u_ws RX10 TX10 3, w ∈ wsX10_pond := by decide +kernel
  have hl := lv_entry ([.ref mo, .int a1]) (n := 2) (Nat.le_of_ble_eq_true rfl)
  rw [lg_entry_eq]
  generalize (lg_sl ([.ref mo, .int a1]) ++ List.replicate (2 - (lg_sl ([.ref mo, .int a1])).length) Slot.unset).toArray = ls at hl ⊢
  have hl : lv_has ls 2 [(0, .ref mo), (1, .int a1)] := hl
  refine lv_aload_n hx hb dX10_pond_0 rfl (lv_at hl 0 rfl) ?_
  refine lv_iconst (v := 0) hx hb dX10_pond_1 (by decide) ?_
  refine yo_put (D := (dC, dI)) (cl := vwCl) (C := RX10) (T := TX10) (N := 3) (ci := 10) (ty := .int) hx hb hts hinX10 tyX10 tyX10_ok nmX10 hown hK hMo hS (Or.inl rfl) rfl 0 (by decide) (hts (.fieldLink RX10 16 "SteamfieldModel" "thrown" "I") (by decide +kernel)) (fun _ h9 => h9) rfl (by decide +kernel) rfl rfl (show 0 < 3 by decide) dX10_pond_2 (fun H locs hMo z9 oq hS => ?_)
  have hMo : yMo dC dI mo 0 (ad 0) sm H := hMo
  have hH := hH.kept (fun i hi => oq _ (hm i hi))
  refine lv_iload_n hx hb dX10_pond_5 rfl (lv_at hl 1 rfl) ?_
  refine lv_iconst (v := 0) hx hb dX10_pond_6 (by decide) ?_
  refine lv_iconst (v := 3) hx hb dX10_pond_7 (by decide) ?_
  refine y_cSi (D := (dC, dI)) (cl := vwCl) (tys := yt ca) (nw := zw_nest) (As := [.int a1, .int 0, .int 3]) (rest := []) ⟨hx, hb, hml, hown, hts⟩ (m_X10_isn l dC dI ca (fun z : Heap => z = H) a1 0 3 h) (cwS 3 hts gX10_pond_X10_is rfl rfl rfl (by decide +kernel) ⟨Nat.le_of_ble_eq_true rfl, Nat.le_of_ble_eq_true rfl⟩) rfl hK hN hX zw_nest_ok rfl hl.1 rfl (Nat.le_of_ble_eq_true rfl) dX10_pond_8 ⟨Nat.le_of_ble_eq_true rfl, Nat.le_of_ble_eq_true rfl⟩ hS (fun _ h => h.elim) (fun H locs hB1 oq1 hz1 hS => ?_)
  have hH : z_H (dC, dI) vwCl yf ca yd ad (yM 0) H := by rw [hB1]; exact hH
  have hMo : yMo dC dI mo 0 (ad 0) sm H := by rw [hB1]; exact hMo
  refine lv_if_eq (tgt := 26) hx hb dX10_pond_11 (by decide) (fun _ => ?_) (fun c9 => absurd c9 (by decide))
  refine lv_aload_n hx hb dX10_pond_26 rfl (lv_at hl 0 rfl) ?_
  refine lv_iconst (v := 1) hx hb dX10_pond_27 (by decide) ?_
  refine y_cVi (D := (dC, dI)) (cl := vwCl) (tys := yt ca) (nw := zw_nest) (C := RX10) (As := [.int 1]) (rest := []) ⟨hx, hb, hml, hown, hts⟩ (m_X10_refuse l dC dI ca mo H.size ad hI hm 0 sm 1 ) (cwV 1 hts gX10_pond_X10_refuse rfl rfl rfl (by decide +kernel) ⟨Nat.le_of_ble_eq_true rfl, Nat.le_of_ble_eq_true rfl⟩) (va_recv hK (y_one hMo) (ci := 10) rfl (q0 := 0) rfl) ⟨rfl, hMo, hH⟩ hK hN hX zw_nest_ok rfl hl.1 rfl (Nat.le_of_ble_eq_true rfl) dX10_pond_28 ⟨Nat.le_of_ble_eq_true rfl, Nat.le_of_ble_eq_true rfl⟩ hS (yA_mono (by have b0 := hS.1; omega)) (fun H locs hB1 oq1 hz1 hS => ?_)
  obtain ⟨hMo, hH⟩ := hB1
  refine W.widen (k := 0) (n := 0) (Nat.le_of_ble_eq_true rfl) (Nat.le_of_ble_eq_true rfl) ?_
  exact W.iret (v := 0) hx hb hr (fun t ht hW => ⟨⟨0, (), rfl, rfl, z_to (B := (fun H => yMo dC dI mo 1 (ad 0) sm H ∧ yW dC dI ca ad (yM 0) H)) ht ⟨hMo, hH⟩⟩, hS.F ht⟩) hS.2.2 dX10_pond_31
set_option maxHeartbeats 4000000 in
set_option maxRecDepth 100000 in
theorem m_X10_blocky (l : Launch) (dC : Nat → ClassId) (dI : Nat → Nat → Nat) (ca : Nat → ClassId) (mo sz : Nat) (ad : Nat → Nat) (hI : z_I yd ad) (hm : ∀ i, yd.1 i < 200 → ad i ≠ mo) (th : Int32) (sm : Int64) (a1 a2 a3 a4 a5 : Int32) (h0 : z_rg a1 10 99) (h1 : z_rg a2 0 1) (h2 : z_rg a3 0 2000) (h3 : z_rg a4 0 400) (h4 : z_rg a5 0 9999): Met l yX10_block wsX10_block ({ frames := 1, cells := 0, slots := 0, locals := 22 }) (z_Py (dC, dI) vwCl (yt ca) zw_nest [.ref mo, .int a1, .int a2, .int a3, .int a4, .int a5] (fun H => H.size = sz ∧ yMo dC dI mo th (ad 0) sm H ∧ yW dC dI ca ad (yM 0) H)) (z_Qi 0 (fun H => yMo dC dI mo 0 (ad 0) sm H) (yA mo ad sz)) 0 0 (yA mo ad sz) := by
  refine Met.ofW (cc := cX10_block) (maxL := 7) (ret := (some .int)) (by decide) rfl ?_
  intro p e s m args below meth c s₁ B9 hml hv
  obtain ⟨rfl, ⟨hz, hMo, hH⟩, hK, hN, hX⟩ := hv
  have hx := B9.exec
  have hb := B9.bytes
  have hr := B9.returns
  have hts := atoms_spec (ws := wsX10_block) B9.pre
  have hown : s.vm.findClass RX10 = some m.cls := findClass_of_methodNamed B9.named
  have hlocks := B9.notSynchronized
  have hS : va_S (yA mo ad sz) s.heap s.heap [] := va_S.rf
  have hba : ∀ i, yd.1 i < 200 → ad i < sz := fun i hi => by have b0 := hH.lt hi; omega
  have hbm : mo < sz := by have b0 := va_at.lt hMo; exact hz ▸ b0
  have hAs : ∀ q, s.heap.size ≤ q → (yA mo ad sz) q := fun q h => Or.inr (Or.inr (hz ▸ h))
  have hinX10 : ∀ w ∈ u_ws RX10 TX10 3, w ∈ wsX10_block := by decide +kernel
  have hinX9 : ∀ w ∈ u_ws RX9 TX9 24, w ∈ wsX10_block := by decide +kernel
  have hl := lv_entry ([.ref mo, .int a1, .int a2, .int a3, .int a4, .int a5]) (n := 7) (Nat.le_of_ble_eq_true rfl)
  rw [lg_entry_eq]
  generalize (lg_sl ([.ref mo, .int a1, .int a2, .int a3, .int a4, .int a5]) ++ List.replicate (7 - (lg_sl ([.ref mo, .int a1, .int a2, .int a3, .int a4, .int a5])).length) Slot.unset).toArray = ls at hl ⊢
  have hl : lv_has ls 7 [(0, .ref mo), (1, .int a1), (2, .int a2), (3, .int a3), (4, .int a4), (5, .int a5)] := hl
  refine lv_aload_n hx hb dX10_block_0 rfl (lv_at hl 0 rfl) ?_
  refine lv_iconst (v := 0) hx hb dX10_block_1 (by decide) ?_
  refine yo_put (D := (dC, dI)) (cl := vwCl) (C := RX10) (T := TX10) (N := 3) (ci := 10) (ty := .int) hx hb hts hinX10 tyX10 tyX10_ok nmX10 hown hK hMo hS (Or.inl rfl) rfl 0 (by decide) (hts (.fieldLink RX10 16 "SteamfieldModel" "thrown" "I") (by decide +kernel)) (fun _ h9 => h9) rfl (by decide +kernel) rfl rfl (show 0 < 3 by decide) dX10_block_2 (fun H locs hMo z9 oq hS => ?_)
  have hMo : yMo dC dI mo 0 (ad 0) sm H := hMo
  have hH := hH.kept (fun i hi => oq _ (hm i hi))
  refine lv_iload_n hx hb dX10_block_5 rfl (lv_at hl 1 rfl) ?_
  refine lv_bipush (v := 10) hx hb dX10_block_6 (by decide) ?_
  refine lv_bipush (v := 99) hx hb dX10_block_8 (by decide) ?_
  refine y_cSi (D := (dC, dI)) (cl := vwCl) (tys := yt ca) (nw := zw_nest) (As := [.int a1, .int 10, .int 99]) (rest := []) ⟨hx, hb, hml, hown, hts⟩ (m_X10_isy l dC dI ca (fun z : Heap => z = H) a1 10 99 h0) (cwS 3 hts gX10_block_X10_is rfl rfl rfl (by decide +kernel) ⟨Nat.le_of_ble_eq_true rfl, Nat.le_of_ble_eq_true rfl⟩) rfl hK hN hX zw_nest_ok rfl hl.1 rfl (Nat.le_of_ble_eq_true rfl) dX10_block_10 ⟨Nat.le_of_ble_eq_true rfl, Nat.le_of_ble_eq_true rfl⟩ hS (fun _ h => h.elim) (fun H locs hB1 oq1 hz1 hS => ?_)
  have hH : z_H (dC, dI) vwCl yf ca yd ad (yM 0) H := by rw [hB1]; exact hH
  have hMo : yMo dC dI mo 0 (ad 0) sm H := by rw [hB1]; exact hMo
  refine lv_if_eq (tgt := 60) hx hb dX10_block_13 (by decide) (fun c9 => absurd c9 (by decide)) (fun _ => ?_)
  refine lv_iload_n hx hb dX10_block_16 rfl (lv_at hl 2 rfl) ?_
  refine lv_iconst (v := 0) hx hb dX10_block_17 (by decide) ?_
  refine lv_iconst (v := 1) hx hb dX10_block_18 (by decide) ?_
  refine y_cSi (D := (dC, dI)) (cl := vwCl) (tys := yt ca) (nw := zw_nest) (As := [.int a2, .int 0, .int 1]) (rest := []) ⟨hx, hb, hml, hown, hts⟩ (m_X10_isy l dC dI ca (fun z : Heap => z = H) a2 0 1 h1) (cwS 3 hts gX10_block_X10_is rfl rfl rfl (by decide +kernel) ⟨Nat.le_of_ble_eq_true rfl, Nat.le_of_ble_eq_true rfl⟩) rfl hK hN hX zw_nest_ok rfl hl.1 rfl (Nat.le_of_ble_eq_true rfl) dX10_block_19 ⟨Nat.le_of_ble_eq_true rfl, Nat.le_of_ble_eq_true rfl⟩ hS (fun _ h => h.elim) (fun H locs hB1 oq1 hz1 hS => ?_)
  have hH : z_H (dC, dI) vwCl yf ca yd ad (yM 0) H := by rw [hB1]; exact hH
  have hMo : yMo dC dI mo 0 (ad 0) sm H := by rw [hB1]; exact hMo
  refine lv_if_eq (tgt := 60) hx hb dX10_block_22 (by decide) (fun c9 => absurd c9 (by decide)) (fun _ => ?_)
  refine lv_iload_n hx hb dX10_block_25 rfl (lv_at hl 3 rfl) ?_
  refine lv_iconst (v := 0) hx hb dX10_block_26 (by decide) ?_
  refine lv_sipush (v := 2000) hx hb dX10_block_27 (by decide) ?_
  refine y_cSi (D := (dC, dI)) (cl := vwCl) (tys := yt ca) (nw := zw_nest) (As := [.int a3, .int 0, .int 2000]) (rest := []) ⟨hx, hb, hml, hown, hts⟩ (m_X10_isy l dC dI ca (fun z : Heap => z = H) a3 0 2000 h2) (cwS 3 hts gX10_block_X10_is rfl rfl rfl (by decide +kernel) ⟨Nat.le_of_ble_eq_true rfl, Nat.le_of_ble_eq_true rfl⟩) rfl hK hN hX zw_nest_ok rfl hl.1 rfl (Nat.le_of_ble_eq_true rfl) dX10_block_30 ⟨Nat.le_of_ble_eq_true rfl, Nat.le_of_ble_eq_true rfl⟩ hS (fun _ h => h.elim) (fun H locs hB1 oq1 hz1 hS => ?_)
  have hH : z_H (dC, dI) vwCl yf ca yd ad (yM 0) H := by rw [hB1]; exact hH
  have hMo : yMo dC dI mo 0 (ad 0) sm H := by rw [hB1]; exact hMo
  refine lv_if_eq (tgt := 60) hx hb dX10_block_33 (by decide) (fun c9 => absurd c9 (by decide)) (fun _ => ?_)
  refine lv_iload hx hb dX10_block_36 (lv_at hl 4 rfl) ?_
  refine lv_iconst (v := 0) hx hb dX10_block_38 (by decide) ?_
  refine lv_sipush (v := 400) hx hb dX10_block_39 (by decide) ?_
  refine y_cSi (D := (dC, dI)) (cl := vwCl) (tys := yt ca) (nw := zw_nest) (As := [.int a4, .int 0, .int 400]) (rest := []) ⟨hx, hb, hml, hown, hts⟩ (m_X10_isy l dC dI ca (fun z : Heap => z = H) a4 0 400 h3) (cwS 3 hts gX10_block_X10_is rfl rfl rfl (by decide +kernel) ⟨Nat.le_of_ble_eq_true rfl, Nat.le_of_ble_eq_true rfl⟩) rfl hK hN hX zw_nest_ok rfl hl.1 rfl (Nat.le_of_ble_eq_true rfl) dX10_block_42 ⟨Nat.le_of_ble_eq_true rfl, Nat.le_of_ble_eq_true rfl⟩ hS (fun _ h => h.elim) (fun H locs hB1 oq1 hz1 hS => ?_)
  have hH : z_H (dC, dI) vwCl yf ca yd ad (yM 0) H := by rw [hB1]; exact hH
  have hMo : yMo dC dI mo 0 (ad 0) sm H := by rw [hB1]; exact hMo
  refine lv_if_eq (tgt := 60) hx hb dX10_block_45 (by decide) (fun c9 => absurd c9 (by decide)) (fun _ => ?_)
  refine lv_iload hx hb dX10_block_48 (lv_at hl 5 rfl) ?_
  refine lv_iconst (v := 0) hx hb dX10_block_50 (by decide) ?_
  refine lv_sipush (v := 9999) hx hb dX10_block_51 (by decide) ?_
  refine y_cSi (D := (dC, dI)) (cl := vwCl) (tys := yt ca) (nw := zw_nest) (As := [.int a5, .int 0, .int 9999]) (rest := []) ⟨hx, hb, hml, hown, hts⟩ (m_X10_isy l dC dI ca (fun z : Heap => z = H) a5 0 9999 h4) (cwS 3 hts gX10_block_X10_is rfl rfl rfl (by decide +kernel) ⟨Nat.le_of_ble_eq_true rfl, Nat.le_of_ble_eq_true rfl⟩) rfl hK hN hX zw_nest_ok rfl hl.1 rfl (Nat.le_of_ble_eq_true rfl) dX10_block_54 ⟨Nat.le_of_ble_eq_true rfl, Nat.le_of_ble_eq_true rfl⟩ hS (fun _ h => h.elim) (fun H locs hB1 oq1 hz1 hS => ?_)
  have hH : z_H (dC, dI) vwCl yf ca yd ad (yM 0) H := by rw [hB1]; exact hH
  have hMo : yMo dC dI mo 0 (ad 0) sm H := by rw [hB1]; exact hMo
  refine lv_if_ne (tgt := 66) hx hb dX10_block_57 (by decide) (fun _ => ?_) (fun c9 => absurd c9 (by decide))
  refine lv_aload_n hx hb dX10_block_66 rfl (lv_at hl 0 rfl) ?_
  refine yo_get (D := (dC, dI)) (cl := vwCl) (C := RX10) (T := TX10) (N := 3) (ci := 10) (v := .ref (ad 0)) hx hb hts hinX10 hown hK hMo rfl 1 (by decide) (hts (.fieldLink RX10 10 "SteamfieldModel" "field" "LSteamfieldModel$Field;") (by decide +kernel)) (fun _ h9 => h9) rfl dX10_block_67 ?_
  refine z_giN (D := (dC, dI)) (cl := vwCl) (C := RX9) (T := TX9) (N := 24) (ci := 9) (k := 4) hx hb hts hinX9 hown hK hH (i := 0) yk_0 (by decide) rfl (by decide) rfl (hN (.fieldLinkNest RX10 20 "SteamfieldModel$Field" "manyBlocks" "I" "SteamfieldModel") (by decide +kernel)) (fun _ h9 => h9) dX10_block_70 ?_
  refine y_num (b := 0) rfl ?_
  refine lv_bipush (v := 8) hx hb dX10_block_73 (by decide) ?_
  refine lv_icmp_ne (tgt := 84) hx hb dX10_block_75 (by decide) (fun _ => ?_) (fun c9 => absurd c9 (by decide))
  refine lv_aload_n hx hb dX10_block_84 rfl (lv_at hl 0 rfl) ?_
  refine yo_get (D := (dC, dI)) (cl := vwCl) (C := RX10) (T := TX10) (N := 3) (ci := 10) (v := .ref (ad 0)) hx hb hts hinX10 hown hK hMo rfl 1 (by decide) (hts (.fieldLink RX10 10 "SteamfieldModel" "field" "LSteamfieldModel$Field;") (by decide +kernel)) (fun _ h9 => h9) rfl dX10_block_85 ?_
  refine z_grN (D := (dC, dI)) (cl := vwCl) (C := RX9) (T := TX9) (N := 24) (ci := 9) (k := 0) hx hb hts hinX9 hown hK hH (i := 0) yk_0 (by decide) rfl (by decide) rfl yr_0 (hN (.fieldLinkNest RX10 40 "SteamfieldModel$Field" "blocks" "[[I" "SteamfieldModel") (by decide +kernel)) (fun _ h9 => h9) dX10_block_88 ?_
  refine lv_aload_n hx hb dX10_block_91 rfl (lv_at hl 0 rfl) ?_
  refine yo_get (D := (dC, dI)) (cl := vwCl) (C := RX10) (T := TX10) (N := 3) (ci := 10) (v := .ref (ad 0)) hx hb hts hinX10 hown hK hMo rfl 1 (by decide) (hts (.fieldLink RX10 10 "SteamfieldModel" "field" "LSteamfieldModel$Field;") (by decide +kernel)) (fun _ h9 => h9) rfl dX10_block_92 ?_
  refine z_giN (D := (dC, dI)) (cl := vwCl) (C := RX9) (T := TX9) (N := 24) (ci := 9) (k := 4) hx hb hts hinX9 hown hK hH (i := 0) yk_0 (by decide) rfl (by decide) rfl (hN (.fieldLinkNest RX10 20 "SteamfieldModel$Field" "manyBlocks" "I" "SteamfieldModel") (by decide +kernel)) (fun _ h9 => h9) dX10_block_95 ?_
  refine y_num (b := 0) rfl ?_
  refine y_aq (D := (dC, dI)) (cl := vwCl) (tys := yt ca) (t0 := 1) (j := 2) hx hb hK hH (i := 1) yk_1 (by decide) (by decide) rfl (show vp_in 0 8 from zx (n := 0) rfl (by decide) (by decide)) (by decide) dX10_block_98 ?_
  refine lv_astore (lv' := [(6, .ref (ad 2)), (0, .ref mo), (1, .int a1), (2, .int a2), (3, .int a3), (4, .int a4), (5, .int a5)]) hx hb dX10_block_99 hl (by decide) rfl (fun ls hl => ?_)
  refine lv_aload hx hb dX10_block_101 (lv_at hl 0 rfl) ?_
  refine lv_iconst (v := 4) hx hb dX10_block_103 (by decide) ?_
  refine lv_iload_n hx hb dX10_block_104 rfl (lv_at hl 2 rfl) ?_
  refine zp_as (t0 := 0) (D := (dC, dI)) (cl := vwCl) (tys := yt ca) hx hb hK hH hI hS (fun _ h => Or.inr (Or.inl h)) (i := 2) yk_2 rfl (show vp_in 4 6 from zx (n := 4) rfl (by decide) (by decide)) dX10_block_105 (fun H locs hH oq hS => ?_)
  rw [show (4 : Int32).toNatClampNeg = 4 from rfl] at hH
  have hMo := va_at.kept hMo (oq _ (hm 2 (by rw [yk_2]; decide)).symm)
  refine lv_aload hx hb dX10_block_106 (lv_at hl 0 rfl) ?_
  refine lv_iconst (v := 5) hx hb dX10_block_108 (by decide) ?_
  refine lv_iload_n hx hb dX10_block_109 rfl (lv_at hl 3 rfl) ?_
  refine zp_as (t0 := 0) (D := (dC, dI)) (cl := vwCl) (tys := yt ca) hx hb hK hH hI hS (fun _ h => Or.inr (Or.inl h)) (i := 2) yk_2 rfl (show vp_in 5 6 from zx (n := 5) rfl (by decide) (by decide)) dX10_block_110 (fun H locs hH oq hS => ?_)
  rw [show (5 : Int32).toNatClampNeg = 5 from rfl] at hH
  have hMo := va_at.kept hMo (oq _ (hm 2 (by rw [yk_2]; decide)).symm)
  refine lv_aload hx hb dX10_block_111 (lv_at hl 0 rfl) ?_
  refine lv_iconst (v := 0) hx hb dX10_block_113 (by decide) ?_
  refine lv_iload_n hx hb dX10_block_114 rfl (lv_at hl 4 rfl) ?_
  refine zp_as (t0 := 0) (D := (dC, dI)) (cl := vwCl) (tys := yt ca) hx hb hK hH hI hS (fun _ h => Or.inr (Or.inl h)) (i := 2) yk_2 rfl (show vp_in 0 6 from zx (n := 0) rfl (by decide) (by decide)) dX10_block_115 (fun H locs hH oq hS => ?_)
  rw [show (0 : Int32).toNatClampNeg = 0 from rfl] at hH
  have hMo := va_at.kept hMo (oq _ (hm 2 (by rw [yk_2]; decide)).symm)
  refine lv_aload hx hb dX10_block_116 (lv_at hl 0 rfl) ?_
  refine lv_iconst (v := 1) hx hb dX10_block_118 (by decide) ?_
  refine lv_iload hx hb dX10_block_119 (lv_at hl 5 rfl) ?_
  refine lv_iload_n hx hb dX10_block_121 rfl (lv_at hl 2 rfl) ?_
  refine lv_iload_n hx hb dX10_block_122 rfl (lv_at hl 4 rfl) ?_
  refine lv_iadd hx hb dX10_block_123 ?_
  refine lv_imul hx hb dX10_block_124 ?_
  refine zp_as (t0 := 0) (D := (dC, dI)) (cl := vwCl) (tys := yt ca) hx hb hK hH hI hS (fun _ h => Or.inr (Or.inl h)) (i := 2) yk_2 rfl (show vp_in 1 6 from zx (n := 1) rfl (by decide) (by decide)) dX10_block_125 (fun H locs hH oq hS => ?_)
  rw [show (1 : Int32).toNatClampNeg = 1 from rfl] at hH
  have hMo := va_at.kept hMo (oq _ (hm 2 (by rw [yk_2]; decide)).symm)
  refine lv_aload hx hb dX10_block_126 (lv_at hl 0 rfl) ?_
  refine lv_iconst (v := 2) hx hb dX10_block_128 (by decide) ?_
  refine lv_iload hx hb dX10_block_129 (lv_at hl 6 rfl) ?_
  refine zp_as (t0 := 0) (D := (dC, dI)) (cl := vwCl) (tys := yt ca) hx hb hK hH hI hS (fun _ h => Or.inr (Or.inl h)) (i := 2) yk_2 rfl (show vp_in 2 6 from zx (n := 2) rfl (by decide) (by decide)) dX10_block_131 (fun H locs hH oq hS => ?_)
  rw [show (2 : Int32).toNatClampNeg = 2 from rfl] at hH
  have hMo := va_at.kept hMo (oq _ (hm 2 (by rw [yk_2]; decide)).symm)
  refine lv_aload_n hx hb dX10_block_132 rfl (lv_at hl 1 rfl) ?_
  refine yo_get (D := (dC, dI)) (cl := vwCl) (C := RX10) (T := TX10) (N := 3) (ci := 10) (v := .ref (ad 0)) hx hb hts hinX10 hown hK hMo rfl 1 (by decide) (hts (.fieldLink RX10 10 "SteamfieldModel" "field" "LSteamfieldModel$Field;") (by decide +kernel)) (fun _ h9 => h9) rfl dX10_block_133 ?_
  refine z_grN (D := (dC, dI)) (cl := vwCl) (C := RX9) (T := TX9) (N := 24) (ci := 9) (k := 9) hx hb hts hinX9 hown hK hH (i := 0) yk_0 (by decide) rfl (by decide) rfl yr_9 (hN (.fieldLinkNest RX10 44 "SteamfieldModel$Field" "told" "[I" "SteamfieldModel") (by decide +kernel)) (fun _ h9 => h9) dX10_block_136 ?_
  refine lv_iconst (v := 0) hx hb dX10_block_139 (by decide) ?_
  refine lv_dup2_11 hx hb dX10_block_140 rfl rfl ?_
  refine z_al (t0 := 0) (D := (dC, dI)) (cl := vwCl) (tys := yt ca) hx hb hK hH (i := 35) yk_35 rfl (show vp_in 0 4 from zx (n := 0) rfl (by decide) (by decide)) dX10_block_141 ?_
  refine y_num (b := 0) rfl ?_
  refine lv_iload_n hx hb dX10_block_142 rfl (lv_at hl 4 rfl) ?_
  refine lv_iadd hx hb dX10_block_143 ?_
  refine zp_as (t0 := 0) (D := (dC, dI)) (cl := vwCl) (tys := yt ca) hx hb hK hH hI hS (fun _ h => Or.inr (Or.inl h)) (i := 35) yk_35 rfl (show vp_in 0 4 from zx (n := 0) rfl (by decide) (by decide)) dX10_block_144 (fun H locs hH oq hS => ?_)
  rw [show (0 : Int32).toNatClampNeg = 0 from rfl] at hH
  have hMo := va_at.kept hMo (oq _ (hm 35 (by rw [yk_35]; decide)).symm)
  refine lv_aload_n hx hb dX10_block_145 rfl (lv_at hl 1 rfl) ?_
  refine yo_get (D := (dC, dI)) (cl := vwCl) (C := RX10) (T := TX10) (N := 3) (ci := 10) (v := .ref (ad 0)) hx hb hts hinX10 hown hK hMo rfl 1 (by decide) (hts (.fieldLink RX10 10 "SteamfieldModel" "field" "LSteamfieldModel$Field;") (by decide +kernel)) (fun _ h9 => h9) rfl dX10_block_146 ?_
  refine z_grN (D := (dC, dI)) (cl := vwCl) (C := RX9) (T := TX9) (N := 24) (ci := 9) (k := 9) hx hb hts hinX9 hown hK hH (i := 0) yk_0 (by decide) rfl (by decide) rfl yr_9 (hN (.fieldLinkNest RX10 44 "SteamfieldModel$Field" "told" "[I" "SteamfieldModel") (by decide +kernel)) (fun _ h9 => h9) dX10_block_149 ?_
  refine lv_iconst (v := 2) hx hb dX10_block_152 (by decide) ?_
  refine lv_dup2_11 hx hb dX10_block_153 rfl rfl ?_
  refine z_al (t0 := 0) (D := (dC, dI)) (cl := vwCl) (tys := yt ca) hx hb hK hH (i := 35) yk_35 rfl (show vp_in 2 4 from zx (n := 2) rfl (by decide) (by decide)) dX10_block_154 ?_
  refine y_num (b := 0) rfl ?_
  refine lv_iload hx hb dX10_block_155 (lv_at hl 6 rfl) ?_
  refine lv_iadd hx hb dX10_block_157 ?_
  refine zp_as (t0 := 0) (D := (dC, dI)) (cl := vwCl) (tys := yt ca) hx hb hK hH hI hS (fun _ h => Or.inr (Or.inl h)) (i := 35) yk_35 rfl (show vp_in 2 4 from zx (n := 2) rfl (by decide) (by decide)) dX10_block_158 (fun H locs hH oq hS => ?_)
  rw [show (2 : Int32).toNatClampNeg = 2 from rfl] at hH
  have hMo := va_at.kept hMo (oq _ (hm 35 (by rw [yk_35]; decide)).symm)
  refine lv_aload_n hx hb dX10_block_159 rfl (lv_at hl 1 rfl) ?_
  refine yo_get (D := (dC, dI)) (cl := vwCl) (C := RX10) (T := TX10) (N := 3) (ci := 10) (v := .ref (ad 0)) hx hb hts hinX10 hown hK hMo rfl 1 (by decide) (hts (.fieldLink RX10 10 "SteamfieldModel" "field" "LSteamfieldModel$Field;") (by decide +kernel)) (fun _ h9 => h9) rfl dX10_block_160 ?_
  refine lv_dup hx hb dX10_block_163 rfl ?_
  refine z_giN (D := (dC, dI)) (cl := vwCl) (C := RX9) (T := TX9) (N := 24) (ci := 9) (k := 4) hx hb hts hinX9 hown hK hH (i := 0) yk_0 (by decide) rfl (by decide) rfl (hN (.fieldLinkNest RX10 20 "SteamfieldModel$Field" "manyBlocks" "I" "SteamfieldModel") (by decide +kernel)) (fun _ h9 => h9) dX10_block_164 ?_
  refine y_num (b := 0) rfl ?_
  refine lv_iconst (v := 1) hx hb dX10_block_167 (by decide) ?_
  refine lv_iadd hx hb dX10_block_168 ?_
  refine y_num (b := 1) (by decide) ?_
  refine zp_iN (D := (dC, dI)) (cl := vwCl) (C := RX9) (T := TX9) (N := 24) (ci := 9) (k := 4) (ty := .int) hx hb hts hinX9 tyX9 tyX9_ok nmX9 hown hK hH hI hS (fun _ h => Or.inr (Or.inl h)) (i := 0) yk_0 (by decide) rfl (by decide) rfl (hN (.fieldLinkNest RX10 20 "SteamfieldModel$Field" "manyBlocks" "I" "SteamfieldModel") (by decide +kernel)) (fun _ h9 => h9) rfl (by decide +kernel) rfl rfl dX10_block_169 (fun H locs hH oq hS => ?_)
  have hMo := va_at.kept hMo (oq _ (hm 0 (by rw [yk_0]; decide)).symm)
  refine lv_aload_n hx hb dX10_block_172 rfl (lv_at hl 1 rfl) ?_
  refine yo_get (D := (dC, dI)) (cl := vwCl) (C := RX10) (T := TX10) (N := 3) (ci := 10) (v := .ref (ad 0)) hx hb hts hinX10 hown hK hMo rfl 1 (by decide) (hts (.fieldLink RX10 10 "SteamfieldModel" "field" "LSteamfieldModel$Field;") (by decide +kernel)) (fun _ h9 => h9) rfl dX10_block_173 ?_
  refine z_giN (D := (dC, dI)) (cl := vwCl) (C := RX9) (T := TX9) (N := 24) (ci := 9) (k := 4) hx hb hts hinX9 hown hK hH (i := 0) yk_0 (by decide) rfl (by decide) rfl (hN (.fieldLinkNest RX10 20 "SteamfieldModel$Field" "manyBlocks" "I" "SteamfieldModel") (by decide +kernel)) (fun _ h9 => h9) dX10_block_176 ?_
  refine y_num (b := 1) rfl ?_
  refine lv_iconst (v := 1) hx hb dX10_block_179 (by decide) ?_
  refine lv_isub hx hb dX10_block_180 ?_
  refine y_num (b := 0) (by decide) ?_
  refine W.widen (k := 0) (n := 0) (Nat.le_of_ble_eq_true rfl) (Nat.le_of_ble_eq_true rfl) ?_
  exact W.iret (v := 0) hx hb hr (fun t ht hW => ⟨⟨0, (), rfl, rfl, z_to (B := (fun H => yMo dC dI mo 0 (ad 0) sm H)) ht hMo⟩, hS.F ht⟩) hS.2.2 dX10_block_181
set_option maxHeartbeats 4000000 in
set_option maxRecDepth 100000 in
theorem m_X10_blockn (l : Launch) (dC : Nat → ClassId) (dI : Nat → Nat → Nat) (ca : Nat → ClassId) (mo sz : Nat) (ad : Nat → Nat) (hI : z_I yd ad) (hm : ∀ i, yd.1 i < 200 → ad i ≠ mo) (th : Int32) (sm : Int64) (a1 a2 a3 a4 a5 : Int32) (h : ¬ (z_rg a1 10 99 ∧ z_rg a2 0 1 ∧ z_rg a3 0 2000 ∧ z_rg a4 0 400 ∧ z_rg a5 0 9999)): Met l yX10_block wsX10_block ({ frames := 1, cells := 0, slots := 0, locals := 22 }) (z_Py (dC, dI) vwCl (yt ca) zw_nest [.ref mo, .int a1, .int a2, .int a3, .int a4, .int a5] (fun H => H.size = sz ∧ yMo dC dI mo th (ad 0) sm H ∧ yW dC dI ca ad (yM 0) H)) (z_Qi 0 (fun H => yMo dC dI mo 1 (ad 0) sm H ∧ yW dC dI ca ad (yM 0) H) (yA mo ad sz)) 0 0 (yA mo ad sz) := by
  refine Met.ofW (cc := cX10_block) (maxL := 7) (ret := (some .int)) (by decide) rfl ?_
  intro p e s m args below meth c s₁ B9 hml hv
  obtain ⟨rfl, ⟨hz, hMo, hH⟩, hK, hN, hX⟩ := hv
  have hx := B9.exec
  have hb := B9.bytes
  have hr := B9.returns
  have hts := atoms_spec (ws := wsX10_block) B9.pre
  have hown : s.vm.findClass RX10 = some m.cls := findClass_of_methodNamed B9.named
  have hlocks := B9.notSynchronized
  have hS : va_S (yA mo ad sz) s.heap s.heap [] := va_S.rf
  have hba : ∀ i, yd.1 i < 200 → ad i < sz := fun i hi => by have b0 := hH.lt hi; omega
  have hbm : mo < sz := by have b0 := va_at.lt hMo; exact hz ▸ b0
  have hAs : ∀ q, s.heap.size ≤ q → (yA mo ad sz) q := fun q h => Or.inr (Or.inr (hz ▸ h))
  have hinX10 : ∀ w ∈ u_ws RX10 TX10 3, w ∈ wsX10_block := by decide +kernel
  have hl := lv_entry ([.ref mo, .int a1, .int a2, .int a3, .int a4, .int a5]) (n := 7) (Nat.le_of_ble_eq_true rfl)
  rw [lg_entry_eq]
  generalize (lg_sl ([.ref mo, .int a1, .int a2, .int a3, .int a4, .int a5]) ++ List.replicate (7 - (lg_sl ([.ref mo, .int a1, .int a2, .int a3, .int a4, .int a5])).length) Slot.unset).toArray = ls at hl ⊢
  have hl : lv_has ls 7 [(0, .ref mo), (1, .int a1), (2, .int a2), (3, .int a3), (4, .int a4), (5, .int a5)] := hl
  refine lv_aload_n hx hb dX10_block_0 rfl (lv_at hl 0 rfl) ?_
  refine lv_iconst (v := 0) hx hb dX10_block_1 (by decide) ?_
  refine yo_put (D := (dC, dI)) (cl := vwCl) (C := RX10) (T := TX10) (N := 3) (ci := 10) (ty := .int) hx hb hts hinX10 tyX10 tyX10_ok nmX10 hown hK hMo hS (Or.inl rfl) rfl 0 (by decide) (hts (.fieldLink RX10 16 "SteamfieldModel" "thrown" "I") (by decide +kernel)) (fun _ h9 => h9) rfl (by decide +kernel) rfl rfl (show 0 < 3 by decide) dX10_block_2 (fun H locs hMo z9 oq hS => ?_)
  have hMo : yMo dC dI mo 0 (ad 0) sm H := hMo
  have hH := hH.kept (fun i hi => oq _ (hm i hi))
  refine lv_iload_n hx hb dX10_block_5 rfl (lv_at hl 1 rfl) ?_
  refine lv_bipush (v := 10) hx hb dX10_block_6 (by decide) ?_
  refine lv_bipush (v := 99) hx hb dX10_block_8 (by decide) ?_
  by_cases k1 : z_rg a1 10 99
  · refine y_cSi (D := (dC, dI)) (cl := vwCl) (tys := yt ca) (nw := zw_nest) (As := [.int a1, .int 10, .int 99]) (rest := []) ⟨hx, hb, hml, hown, hts⟩ (m_X10_isy l dC dI ca (fun z : Heap => z = H) a1 10 99 k1) (cwS 3 hts gX10_block_X10_is rfl rfl rfl (by decide +kernel) ⟨Nat.le_of_ble_eq_true rfl, Nat.le_of_ble_eq_true rfl⟩) rfl hK hN hX zw_nest_ok rfl hl.1 rfl (Nat.le_of_ble_eq_true rfl) dX10_block_10 ⟨Nat.le_of_ble_eq_true rfl, Nat.le_of_ble_eq_true rfl⟩ hS (fun _ h => h.elim) (fun H locs hB1 oq1 hz1 hS => ?_)
    have hH : z_H (dC, dI) vwCl yf ca yd ad (yM 0) H := by rw [hB1]; exact hH
    have hMo : yMo dC dI mo 0 (ad 0) sm H := by rw [hB1]; exact hMo
    refine lv_if_eq (tgt := 60) hx hb dX10_block_13 (by decide) (fun c9 => absurd c9 (by decide)) (fun _ => ?_)
    refine lv_iload_n hx hb dX10_block_16 rfl (lv_at hl 2 rfl) ?_
    refine lv_iconst (v := 0) hx hb dX10_block_17 (by decide) ?_
    refine lv_iconst (v := 1) hx hb dX10_block_18 (by decide) ?_
    by_cases k2 : z_rg a2 0 1
    · refine y_cSi (D := (dC, dI)) (cl := vwCl) (tys := yt ca) (nw := zw_nest) (As := [.int a2, .int 0, .int 1]) (rest := []) ⟨hx, hb, hml, hown, hts⟩ (m_X10_isy l dC dI ca (fun z : Heap => z = H) a2 0 1 k2) (cwS 3 hts gX10_block_X10_is rfl rfl rfl (by decide +kernel) ⟨Nat.le_of_ble_eq_true rfl, Nat.le_of_ble_eq_true rfl⟩) rfl hK hN hX zw_nest_ok rfl hl.1 rfl (Nat.le_of_ble_eq_true rfl) dX10_block_19 ⟨Nat.le_of_ble_eq_true rfl, Nat.le_of_ble_eq_true rfl⟩ hS (fun _ h => h.elim) (fun H locs hB1 oq1 hz1 hS => ?_)
      have hH : z_H (dC, dI) vwCl yf ca yd ad (yM 0) H := by rw [hB1]; exact hH
      have hMo : yMo dC dI mo 0 (ad 0) sm H := by rw [hB1]; exact hMo
      refine lv_if_eq (tgt := 60) hx hb dX10_block_22 (by decide) (fun c9 => absurd c9 (by decide)) (fun _ => ?_)
      refine lv_iload_n hx hb dX10_block_25 rfl (lv_at hl 3 rfl) ?_
      refine lv_iconst (v := 0) hx hb dX10_block_26 (by decide) ?_
      refine lv_sipush (v := 2000) hx hb dX10_block_27 (by decide) ?_
      by_cases k3 : z_rg a3 0 2000
      · refine y_cSi (D := (dC, dI)) (cl := vwCl) (tys := yt ca) (nw := zw_nest) (As := [.int a3, .int 0, .int 2000]) (rest := []) ⟨hx, hb, hml, hown, hts⟩ (m_X10_isy l dC dI ca (fun z : Heap => z = H) a3 0 2000 k3) (cwS 3 hts gX10_block_X10_is rfl rfl rfl (by decide +kernel) ⟨Nat.le_of_ble_eq_true rfl, Nat.le_of_ble_eq_true rfl⟩) rfl hK hN hX zw_nest_ok rfl hl.1 rfl (Nat.le_of_ble_eq_true rfl) dX10_block_30 ⟨Nat.le_of_ble_eq_true rfl, Nat.le_of_ble_eq_true rfl⟩ hS (fun _ h => h.elim) (fun H locs hB1 oq1 hz1 hS => ?_)
        have hH : z_H (dC, dI) vwCl yf ca yd ad (yM 0) H := by rw [hB1]; exact hH
        have hMo : yMo dC dI mo 0 (ad 0) sm H := by rw [hB1]; exact hMo
        refine lv_if_eq (tgt := 60) hx hb dX10_block_33 (by decide) (fun c9 => absurd c9 (by decide)) (fun _ => ?_)
        refine lv_iload hx hb dX10_block_36 (lv_at hl 4 rfl) ?_
        refine lv_iconst (v := 0) hx hb dX10_block_38 (by decide) ?_
        refine lv_sipush (v := 400) hx hb dX10_block_39 (by decide) ?_
        by_cases k4 : z_rg a4 0 400
        · refine y_cSi (D := (dC, dI)) (cl := vwCl) (tys := yt ca) (nw := zw_nest) (As := [.int a4, .int 0, .int 400]) (rest := []) ⟨hx, hb, hml, hown, hts⟩ (m_X10_isy l dC dI ca (fun z : Heap => z = H) a4 0 400 k4) (cwS 3 hts gX10_block_X10_is rfl rfl rfl (by decide +kernel) ⟨Nat.le_of_ble_eq_true rfl, Nat.le_of_ble_eq_true rfl⟩) rfl hK hN hX zw_nest_ok rfl hl.1 rfl (Nat.le_of_ble_eq_true rfl) dX10_block_42 ⟨Nat.le_of_ble_eq_true rfl, Nat.le_of_ble_eq_true rfl⟩ hS (fun _ h => h.elim) (fun H locs hB1 oq1 hz1 hS => ?_)
          have hH : z_H (dC, dI) vwCl yf ca yd ad (yM 0) H := by rw [hB1]; exact hH
          have hMo : yMo dC dI mo 0 (ad 0) sm H := by rw [hB1]; exact hMo
          refine lv_if_eq (tgt := 60) hx hb dX10_block_45 (by decide) (fun c9 => absurd c9 (by decide)) (fun _ => ?_)
          refine lv_iload hx hb dX10_block_48 (lv_at hl 5 rfl) ?_
          refine lv_iconst (v := 0) hx hb dX10_block_50 (by decide) ?_
          refine lv_sipush (v := 9999) hx hb dX10_block_51 (by decide) ?_
          by_cases k5 : z_rg a5 0 9999
          · exact absurd ⟨k1, k2, k3, k4, k5⟩ h
          · refine y_cSi (D := (dC, dI)) (cl := vwCl) (tys := yt ca) (nw := zw_nest) (As := [.int a5, .int 0, .int 9999]) (rest := []) ⟨hx, hb, hml, hown, hts⟩ (m_X10_isn l dC dI ca (fun z : Heap => z = H) a5 0 9999 k5) (cwS 3 hts gX10_block_X10_is rfl rfl rfl (by decide +kernel) ⟨Nat.le_of_ble_eq_true rfl, Nat.le_of_ble_eq_true rfl⟩) rfl hK hN hX zw_nest_ok rfl hl.1 rfl (Nat.le_of_ble_eq_true rfl) dX10_block_54 ⟨Nat.le_of_ble_eq_true rfl, Nat.le_of_ble_eq_true rfl⟩ hS (fun _ h => h.elim) (fun H locs hB1 oq1 hz1 hS => ?_)
            have hH : z_H (dC, dI) vwCl yf ca yd ad (yM 0) H := by rw [hB1]; exact hH
            have hMo : yMo dC dI mo 0 (ad 0) sm H := by rw [hB1]; exact hMo
            refine lv_if_ne (tgt := 66) hx hb dX10_block_57 (by decide) (fun c9 => absurd c9 (by decide)) (fun _ => ?_)
            refine lv_aload_n hx hb dX10_block_60 rfl (lv_at hl 0 rfl) ?_
            refine lv_iconst (v := 1) hx hb dX10_block_61 (by decide) ?_
            refine y_cVi (D := (dC, dI)) (cl := vwCl) (tys := yt ca) (nw := zw_nest) (C := RX10) (As := [.int 1]) (rest := []) ⟨hx, hb, hml, hown, hts⟩ (m_X10_refuse l dC dI ca mo H.size ad hI hm 0 sm 1 ) (cwV 1 hts gX10_block_X10_refuse rfl rfl rfl (by decide +kernel) ⟨Nat.le_of_ble_eq_true rfl, Nat.le_of_ble_eq_true rfl⟩) (va_recv hK (y_one hMo) (ci := 10) rfl (q0 := 0) rfl) ⟨rfl, hMo, hH⟩ hK hN hX zw_nest_ok rfl hl.1 rfl (Nat.le_of_ble_eq_true rfl) dX10_block_62 ⟨Nat.le_of_ble_eq_true rfl, Nat.le_of_ble_eq_true rfl⟩ hS (yA_mono (by have b0 := hS.1; omega)) (fun H locs hB1 oq1 hz1 hS => ?_)
            obtain ⟨hMo, hH⟩ := hB1
            refine W.widen (k := 0) (n := 0) (Nat.le_of_ble_eq_true rfl) (Nat.le_of_ble_eq_true rfl) ?_
            exact W.iret (v := 0) hx hb hr (fun t ht hW => ⟨⟨0, (), rfl, rfl, z_to (B := (fun H => yMo dC dI mo 1 (ad 0) sm H ∧ yW dC dI ca ad (yM 0) H)) ht ⟨hMo, hH⟩⟩, hS.F ht⟩) hS.2.2 dX10_block_65
        · refine y_cSi (D := (dC, dI)) (cl := vwCl) (tys := yt ca) (nw := zw_nest) (As := [.int a4, .int 0, .int 400]) (rest := []) ⟨hx, hb, hml, hown, hts⟩ (m_X10_isn l dC dI ca (fun z : Heap => z = H) a4 0 400 k4) (cwS 3 hts gX10_block_X10_is rfl rfl rfl (by decide +kernel) ⟨Nat.le_of_ble_eq_true rfl, Nat.le_of_ble_eq_true rfl⟩) rfl hK hN hX zw_nest_ok rfl hl.1 rfl (Nat.le_of_ble_eq_true rfl) dX10_block_42 ⟨Nat.le_of_ble_eq_true rfl, Nat.le_of_ble_eq_true rfl⟩ hS (fun _ h => h.elim) (fun H locs hB1 oq1 hz1 hS => ?_)
          have hH : z_H (dC, dI) vwCl yf ca yd ad (yM 0) H := by rw [hB1]; exact hH
          have hMo : yMo dC dI mo 0 (ad 0) sm H := by rw [hB1]; exact hMo
          refine lv_if_eq (tgt := 60) hx hb dX10_block_45 (by decide) (fun _ => ?_) (fun c9 => absurd c9 (by decide))
          refine lv_aload_n hx hb dX10_block_60 rfl (lv_at hl 0 rfl) ?_
          refine lv_iconst (v := 1) hx hb dX10_block_61 (by decide) ?_
          refine y_cVi (D := (dC, dI)) (cl := vwCl) (tys := yt ca) (nw := zw_nest) (C := RX10) (As := [.int 1]) (rest := []) ⟨hx, hb, hml, hown, hts⟩ (m_X10_refuse l dC dI ca mo H.size ad hI hm 0 sm 1 ) (cwV 1 hts gX10_block_X10_refuse rfl rfl rfl (by decide +kernel) ⟨Nat.le_of_ble_eq_true rfl, Nat.le_of_ble_eq_true rfl⟩) (va_recv hK (y_one hMo) (ci := 10) rfl (q0 := 0) rfl) ⟨rfl, hMo, hH⟩ hK hN hX zw_nest_ok rfl hl.1 rfl (Nat.le_of_ble_eq_true rfl) dX10_block_62 ⟨Nat.le_of_ble_eq_true rfl, Nat.le_of_ble_eq_true rfl⟩ hS (yA_mono (by have b0 := hS.1; omega)) (fun H locs hB1 oq1 hz1 hS => ?_)
          obtain ⟨hMo, hH⟩ := hB1
          refine W.widen (k := 0) (n := 0) (Nat.le_of_ble_eq_true rfl) (Nat.le_of_ble_eq_true rfl) ?_
          exact W.iret (v := 0) hx hb hr (fun t ht hW => ⟨⟨0, (), rfl, rfl, z_to (B := (fun H => yMo dC dI mo 1 (ad 0) sm H ∧ yW dC dI ca ad (yM 0) H)) ht ⟨hMo, hH⟩⟩, hS.F ht⟩) hS.2.2 dX10_block_65
      · refine y_cSi (D := (dC, dI)) (cl := vwCl) (tys := yt ca) (nw := zw_nest) (As := [.int a3, .int 0, .int 2000]) (rest := []) ⟨hx, hb, hml, hown, hts⟩ (m_X10_isn l dC dI ca (fun z : Heap => z = H) a3 0 2000 k3) (cwS 3 hts gX10_block_X10_is rfl rfl rfl (by decide +kernel) ⟨Nat.le_of_ble_eq_true rfl, Nat.le_of_ble_eq_true rfl⟩) rfl hK hN hX zw_nest_ok rfl hl.1 rfl (Nat.le_of_ble_eq_true rfl) dX10_block_30 ⟨Nat.le_of_ble_eq_true rfl, Nat.le_of_ble_eq_true rfl⟩ hS (fun _ h => h.elim) (fun H locs hB1 oq1 hz1 hS => ?_)
        have hH : z_H (dC, dI) vwCl yf ca yd ad (yM 0) H := by rw [hB1]; exact hH
        have hMo : yMo dC dI mo 0 (ad 0) sm H := by rw [hB1]; exact hMo
        refine lv_if_eq (tgt := 60) hx hb dX10_block_33 (by decide) (fun _ => ?_) (fun c9 => absurd c9 (by decide))
        refine lv_aload_n hx hb dX10_block_60 rfl (lv_at hl 0 rfl) ?_
        refine lv_iconst (v := 1) hx hb dX10_block_61 (by decide) ?_
        refine y_cVi (D := (dC, dI)) (cl := vwCl) (tys := yt ca) (nw := zw_nest) (C := RX10) (As := [.int 1]) (rest := []) ⟨hx, hb, hml, hown, hts⟩ (m_X10_refuse l dC dI ca mo H.size ad hI hm 0 sm 1 ) (cwV 1 hts gX10_block_X10_refuse rfl rfl rfl (by decide +kernel) ⟨Nat.le_of_ble_eq_true rfl, Nat.le_of_ble_eq_true rfl⟩) (va_recv hK (y_one hMo) (ci := 10) rfl (q0 := 0) rfl) ⟨rfl, hMo, hH⟩ hK hN hX zw_nest_ok rfl hl.1 rfl (Nat.le_of_ble_eq_true rfl) dX10_block_62 ⟨Nat.le_of_ble_eq_true rfl, Nat.le_of_ble_eq_true rfl⟩ hS (yA_mono (by have b0 := hS.1; omega)) (fun H locs hB1 oq1 hz1 hS => ?_)
        obtain ⟨hMo, hH⟩ := hB1
        refine W.widen (k := 0) (n := 0) (Nat.le_of_ble_eq_true rfl) (Nat.le_of_ble_eq_true rfl) ?_
        exact W.iret (v := 0) hx hb hr (fun t ht hW => ⟨⟨0, (), rfl, rfl, z_to (B := (fun H => yMo dC dI mo 1 (ad 0) sm H ∧ yW dC dI ca ad (yM 0) H)) ht ⟨hMo, hH⟩⟩, hS.F ht⟩) hS.2.2 dX10_block_65
    · refine y_cSi (D := (dC, dI)) (cl := vwCl) (tys := yt ca) (nw := zw_nest) (As := [.int a2, .int 0, .int 1]) (rest := []) ⟨hx, hb, hml, hown, hts⟩ (m_X10_isn l dC dI ca (fun z : Heap => z = H) a2 0 1 k2) (cwS 3 hts gX10_block_X10_is rfl rfl rfl (by decide +kernel) ⟨Nat.le_of_ble_eq_true rfl, Nat.le_of_ble_eq_true rfl⟩) rfl hK hN hX zw_nest_ok rfl hl.1 rfl (Nat.le_of_ble_eq_true rfl) dX10_block_19 ⟨Nat.le_of_ble_eq_true rfl, Nat.le_of_ble_eq_true rfl⟩ hS (fun _ h => h.elim) (fun H locs hB1 oq1 hz1 hS => ?_)
      have hH : z_H (dC, dI) vwCl yf ca yd ad (yM 0) H := by rw [hB1]; exact hH
      have hMo : yMo dC dI mo 0 (ad 0) sm H := by rw [hB1]; exact hMo
      refine lv_if_eq (tgt := 60) hx hb dX10_block_22 (by decide) (fun _ => ?_) (fun c9 => absurd c9 (by decide))
      refine lv_aload_n hx hb dX10_block_60 rfl (lv_at hl 0 rfl) ?_
      refine lv_iconst (v := 1) hx hb dX10_block_61 (by decide) ?_
      refine y_cVi (D := (dC, dI)) (cl := vwCl) (tys := yt ca) (nw := zw_nest) (C := RX10) (As := [.int 1]) (rest := []) ⟨hx, hb, hml, hown, hts⟩ (m_X10_refuse l dC dI ca mo H.size ad hI hm 0 sm 1 ) (cwV 1 hts gX10_block_X10_refuse rfl rfl rfl (by decide +kernel) ⟨Nat.le_of_ble_eq_true rfl, Nat.le_of_ble_eq_true rfl⟩) (va_recv hK (y_one hMo) (ci := 10) rfl (q0 := 0) rfl) ⟨rfl, hMo, hH⟩ hK hN hX zw_nest_ok rfl hl.1 rfl (Nat.le_of_ble_eq_true rfl) dX10_block_62 ⟨Nat.le_of_ble_eq_true rfl, Nat.le_of_ble_eq_true rfl⟩ hS (yA_mono (by have b0 := hS.1; omega)) (fun H locs hB1 oq1 hz1 hS => ?_)
      obtain ⟨hMo, hH⟩ := hB1
      refine W.widen (k := 0) (n := 0) (Nat.le_of_ble_eq_true rfl) (Nat.le_of_ble_eq_true rfl) ?_
      exact W.iret (v := 0) hx hb hr (fun t ht hW => ⟨⟨0, (), rfl, rfl, z_to (B := (fun H => yMo dC dI mo 1 (ad 0) sm H ∧ yW dC dI ca ad (yM 0) H)) ht ⟨hMo, hH⟩⟩, hS.F ht⟩) hS.2.2 dX10_block_65
  · refine y_cSi (D := (dC, dI)) (cl := vwCl) (tys := yt ca) (nw := zw_nest) (As := [.int a1, .int 10, .int 99]) (rest := []) ⟨hx, hb, hml, hown, hts⟩ (m_X10_isn l dC dI ca (fun z : Heap => z = H) a1 10 99 k1) (cwS 3 hts gX10_block_X10_is rfl rfl rfl (by decide +kernel) ⟨Nat.le_of_ble_eq_true rfl, Nat.le_of_ble_eq_true rfl⟩) rfl hK hN hX zw_nest_ok rfl hl.1 rfl (Nat.le_of_ble_eq_true rfl) dX10_block_10 ⟨Nat.le_of_ble_eq_true rfl, Nat.le_of_ble_eq_true rfl⟩ hS (fun _ h => h.elim) (fun H locs hB1 oq1 hz1 hS => ?_)
    have hH : z_H (dC, dI) vwCl yf ca yd ad (yM 0) H := by rw [hB1]; exact hH
    have hMo : yMo dC dI mo 0 (ad 0) sm H := by rw [hB1]; exact hMo
    refine lv_if_eq (tgt := 60) hx hb dX10_block_13 (by decide) (fun _ => ?_) (fun c9 => absurd c9 (by decide))
    refine lv_aload_n hx hb dX10_block_60 rfl (lv_at hl 0 rfl) ?_
    refine lv_iconst (v := 1) hx hb dX10_block_61 (by decide) ?_
    refine y_cVi (D := (dC, dI)) (cl := vwCl) (tys := yt ca) (nw := zw_nest) (C := RX10) (As := [.int 1]) (rest := []) ⟨hx, hb, hml, hown, hts⟩ (m_X10_refuse l dC dI ca mo H.size ad hI hm 0 sm 1 ) (cwV 1 hts gX10_block_X10_refuse rfl rfl rfl (by decide +kernel) ⟨Nat.le_of_ble_eq_true rfl, Nat.le_of_ble_eq_true rfl⟩) (va_recv hK (y_one hMo) (ci := 10) rfl (q0 := 0) rfl) ⟨rfl, hMo, hH⟩ hK hN hX zw_nest_ok rfl hl.1 rfl (Nat.le_of_ble_eq_true rfl) dX10_block_62 ⟨Nat.le_of_ble_eq_true rfl, Nat.le_of_ble_eq_true rfl⟩ hS (yA_mono (by have b0 := hS.1; omega)) (fun H locs hB1 oq1 hz1 hS => ?_)
    obtain ⟨hMo, hH⟩ := hB1
    refine W.widen (k := 0) (n := 0) (Nat.le_of_ble_eq_true rfl) (Nat.le_of_ble_eq_true rfl) ?_
    exact W.iret (v := 0) hx hb hr (fun t ht hW => ⟨⟨0, (), rfl, rfl, z_to (B := (fun H => yMo dC dI mo 1 (ad 0) sm H ∧ yW dC dI ca ad (yM 0) H)) ht ⟨hMo, hH⟩⟩, hS.F ht⟩) hS.2.2 dX10_block_65
set_option maxHeartbeats 4000000 in
set_option maxRecDepth 100000 in
theorem m_X10_ofOwnern (l : Launch) (dC : Nat → ClassId) (dI : Nat → Nat → Nat) (ca : Nat → ClassId) (mo sz : Nat) (ad : Nat → Nat) (hI : z_I yd ad) (hm : ∀ i, yd.1 i < 200 → ad i ≠ mo) (th : Int32) (sm : Int64) (a1 a2 : Int32) (h : ¬ z_rg a1 0 1): Met l yX10_ofOwner wsX10_ofOwner ({ frames := 1, cells := 0, slots := 0, locals := 22 }) (z_Py (dC, dI) vwCl (yt ca) zw_nest [.ref mo, .int a1, .int a2] (fun H => H.size = sz ∧ yMo dC dI mo th (ad 0) sm H ∧ yW dC dI ca ad (yM 0) H)) (z_Qi 0 (fun H => yMo dC dI mo 1 (ad 0) sm H ∧ yW dC dI ca ad (yM 0) H) (yA mo ad sz)) 0 0 (yA mo ad sz) := by
  refine Met.ofW (cc := cX10_ofOwner) (maxL := 3) (ret := (some .int)) (by decide) rfl ?_
  intro p e s m args below meth c s₁ B9 hml hv
  obtain ⟨rfl, ⟨hz, hMo, hH⟩, hK, hN, hX⟩ := hv
  have hx := B9.exec
  have hb := B9.bytes
  have hr := B9.returns
  have hts := atoms_spec (ws := wsX10_ofOwner) B9.pre
  have hown : s.vm.findClass RX10 = some m.cls := findClass_of_methodNamed B9.named
  have hlocks := B9.notSynchronized
  have hS : va_S (yA mo ad sz) s.heap s.heap [] := va_S.rf
  have hba : ∀ i, yd.1 i < 200 → ad i < sz := fun i hi => by have b0 := hH.lt hi; omega
  have hbm : mo < sz := by have b0 := va_at.lt hMo; exact hz ▸ b0
  have hAs : ∀ q, s.heap.size ≤ q → (yA mo ad sz) q := fun q h => Or.inr (Or.inr (hz ▸ h))
  have hinX10 : ∀ w ∈ u_ws RX10 TX10 3, w ∈ wsX10_ofOwner := by decide +kernel
  have hl := lv_entry ([.ref mo, .int a1, .int a2]) (n := 3) (Nat.le_of_ble_eq_true rfl)
  rw [lg_entry_eq]
  generalize (lg_sl ([.ref mo, .int a1, .int a2]) ++ List.replicate (3 - (lg_sl ([.ref mo, .int a1, .int a2])).length) Slot.unset).toArray = ls at hl ⊢
  have hl : lv_has ls 3 [(0, .ref mo), (1, .int a1), (2, .int a2)] := hl
  refine lv_aload_n hx hb dX10_ofOwner_0 rfl (lv_at hl 0 rfl) ?_
  refine lv_iconst (v := 0) hx hb dX10_ofOwner_1 (by decide) ?_
  refine yo_put (D := (dC, dI)) (cl := vwCl) (C := RX10) (T := TX10) (N := 3) (ci := 10) (ty := .int) hx hb hts hinX10 tyX10 tyX10_ok nmX10 hown hK hMo hS (Or.inl rfl) rfl 0 (by decide) (hts (.fieldLink RX10 16 "SteamfieldModel" "thrown" "I") (by decide +kernel)) (fun _ h9 => h9) rfl (by decide +kernel) rfl rfl (show 0 < 3 by decide) dX10_ofOwner_2 (fun H locs hMo z9 oq hS => ?_)
  have hMo : yMo dC dI mo 0 (ad 0) sm H := hMo
  have hH := hH.kept (fun i hi => oq _ (hm i hi))
  refine lv_iload_n hx hb dX10_ofOwner_5 rfl (lv_at hl 1 rfl) ?_
  refine lv_iconst (v := 0) hx hb dX10_ofOwner_6 (by decide) ?_
  refine lv_iconst (v := 1) hx hb dX10_ofOwner_7 (by decide) ?_
  refine y_cSi (D := (dC, dI)) (cl := vwCl) (tys := yt ca) (nw := zw_nest) (As := [.int a1, .int 0, .int 1]) (rest := []) ⟨hx, hb, hml, hown, hts⟩ (m_X10_isn l dC dI ca (fun z : Heap => z = H) a1 0 1 h) (cwS 3 hts gX10_ofOwner_X10_is rfl rfl rfl (by decide +kernel) ⟨Nat.le_of_ble_eq_true rfl, Nat.le_of_ble_eq_true rfl⟩) rfl hK hN hX zw_nest_ok rfl hl.1 rfl (Nat.le_of_ble_eq_true rfl) dX10_ofOwner_8 ⟨Nat.le_of_ble_eq_true rfl, Nat.le_of_ble_eq_true rfl⟩ hS (fun _ h => h.elim) (fun H locs hB1 oq1 hz1 hS => ?_)
  have hH : z_H (dC, dI) vwCl yf ca yd ad (yM 0) H := by rw [hB1]; exact hH
  have hMo : yMo dC dI mo 0 (ad 0) sm H := by rw [hB1]; exact hMo
  refine lv_if_ne (tgt := 20) hx hb dX10_ofOwner_11 (by decide) (fun c9 => absurd c9 (by decide)) (fun _ => ?_)
  refine lv_aload_n hx hb dX10_ofOwner_14 rfl (lv_at hl 0 rfl) ?_
  refine lv_iconst (v := 1) hx hb dX10_ofOwner_15 (by decide) ?_
  refine y_cVi (D := (dC, dI)) (cl := vwCl) (tys := yt ca) (nw := zw_nest) (C := RX10) (As := [.int 1]) (rest := []) ⟨hx, hb, hml, hown, hts⟩ (m_X10_refuse l dC dI ca mo H.size ad hI hm 0 sm 1 ) (cwV 1 hts gX10_ofOwner_X10_refuse rfl rfl rfl (by decide +kernel) ⟨Nat.le_of_ble_eq_true rfl, Nat.le_of_ble_eq_true rfl⟩) (va_recv hK (y_one hMo) (ci := 10) rfl (q0 := 0) rfl) ⟨rfl, hMo, hH⟩ hK hN hX zw_nest_ok rfl hl.1 rfl (Nat.le_of_ble_eq_true rfl) dX10_ofOwner_16 ⟨Nat.le_of_ble_eq_true rfl, Nat.le_of_ble_eq_true rfl⟩ hS (yA_mono (by have b0 := hS.1; omega)) (fun H locs hB1 oq1 hz1 hS => ?_)
  obtain ⟨hMo, hH⟩ := hB1
  refine W.widen (k := 0) (n := 0) (Nat.le_of_ble_eq_true rfl) (Nat.le_of_ble_eq_true rfl) ?_
  exact W.iret (v := 0) hx hb hr (fun t ht hW => ⟨⟨0, (), rfl, rfl, z_to (B := (fun H => yMo dC dI mo 1 (ad 0) sm H ∧ yW dC dI ca ad (yM 0) H)) ht ⟨hMo, hH⟩⟩, hS.F ht⟩) hS.2.2 dX10_ofOwner_19
set_option maxHeartbeats 4000000 in
set_option maxRecDepth 100000 in
theorem m_X10_ofOwnerm (l : Launch) (dC : Nat → ClassId) (dI : Nat → Nat → Nat) (ca : Nat → ClassId) (mo sz : Nat) (ad : Nat → Nat) (hI : z_I yd ad) (hm : ∀ i, yd.1 i < 200 → ad i ≠ mo) (th : Int32) (sm : Int64) (a1 a2 : Int32) (h1 : z_rg a1 0 1) (h : ¬ z_rg a2 0 1): Met l yX10_ofOwner wsX10_ofOwner ({ frames := 1, cells := 0, slots := 0, locals := 22 }) (z_Py (dC, dI) vwCl (yt ca) zw_nest [.ref mo, .int a1, .int a2] (fun H => H.size = sz ∧ yMo dC dI mo th (ad 0) sm H ∧ yW dC dI ca ad (yM 0) H)) (z_Qi 0 (fun H => yMo dC dI mo 2 (ad 0) sm H ∧ yW dC dI ca ad (yM 0) H) (yA mo ad sz)) 0 0 (yA mo ad sz) := by
  refine Met.ofW (cc := cX10_ofOwner) (maxL := 3) (ret := (some .int)) (by decide) rfl ?_
  intro p e s m args below meth c s₁ B9 hml hv
  obtain ⟨rfl, ⟨hz, hMo, hH⟩, hK, hN, hX⟩ := hv
  have hx := B9.exec
  have hb := B9.bytes
  have hr := B9.returns
  have hts := atoms_spec (ws := wsX10_ofOwner) B9.pre
  have hown : s.vm.findClass RX10 = some m.cls := findClass_of_methodNamed B9.named
  have hlocks := B9.notSynchronized
  have hS : va_S (yA mo ad sz) s.heap s.heap [] := va_S.rf
  have hba : ∀ i, yd.1 i < 200 → ad i < sz := fun i hi => by have b0 := hH.lt hi; omega
  have hbm : mo < sz := by have b0 := va_at.lt hMo; exact hz ▸ b0
  have hAs : ∀ q, s.heap.size ≤ q → (yA mo ad sz) q := fun q h => Or.inr (Or.inr (hz ▸ h))
  have hinX10 : ∀ w ∈ u_ws RX10 TX10 3, w ∈ wsX10_ofOwner := by decide +kernel
  have hl := lv_entry ([.ref mo, .int a1, .int a2]) (n := 3) (Nat.le_of_ble_eq_true rfl)
  rw [lg_entry_eq]
  generalize (lg_sl ([.ref mo, .int a1, .int a2]) ++ List.replicate (3 - (lg_sl ([.ref mo, .int a1, .int a2])).length) Slot.unset).toArray = ls at hl ⊢
  have hl : lv_has ls 3 [(0, .ref mo), (1, .int a1), (2, .int a2)] := hl
  refine lv_aload_n hx hb dX10_ofOwner_0 rfl (lv_at hl 0 rfl) ?_
  refine lv_iconst (v := 0) hx hb dX10_ofOwner_1 (by decide) ?_
  refine yo_put (D := (dC, dI)) (cl := vwCl) (C := RX10) (T := TX10) (N := 3) (ci := 10) (ty := .int) hx hb hts hinX10 tyX10 tyX10_ok nmX10 hown hK hMo hS (Or.inl rfl) rfl 0 (by decide) (hts (.fieldLink RX10 16 "SteamfieldModel" "thrown" "I") (by decide +kernel)) (fun _ h9 => h9) rfl (by decide +kernel) rfl rfl (show 0 < 3 by decide) dX10_ofOwner_2 (fun H locs hMo z9 oq hS => ?_)
  have hMo : yMo dC dI mo 0 (ad 0) sm H := hMo
  have hH := hH.kept (fun i hi => oq _ (hm i hi))
  refine lv_iload_n hx hb dX10_ofOwner_5 rfl (lv_at hl 1 rfl) ?_
  refine lv_iconst (v := 0) hx hb dX10_ofOwner_6 (by decide) ?_
  refine lv_iconst (v := 1) hx hb dX10_ofOwner_7 (by decide) ?_
  refine y_cSi (D := (dC, dI)) (cl := vwCl) (tys := yt ca) (nw := zw_nest) (As := [.int a1, .int 0, .int 1]) (rest := []) ⟨hx, hb, hml, hown, hts⟩ (m_X10_isy l dC dI ca (fun z : Heap => z = H) a1 0 1 h1) (cwS 3 hts gX10_ofOwner_X10_is rfl rfl rfl (by decide +kernel) ⟨Nat.le_of_ble_eq_true rfl, Nat.le_of_ble_eq_true rfl⟩) rfl hK hN hX zw_nest_ok rfl hl.1 rfl (Nat.le_of_ble_eq_true rfl) dX10_ofOwner_8 ⟨Nat.le_of_ble_eq_true rfl, Nat.le_of_ble_eq_true rfl⟩ hS (fun _ h => h.elim) (fun H locs hB1 oq1 hz1 hS => ?_)
  have hH : z_H (dC, dI) vwCl yf ca yd ad (yM 0) H := by rw [hB1]; exact hH
  have hMo : yMo dC dI mo 0 (ad 0) sm H := by rw [hB1]; exact hMo
  refine lv_if_ne (tgt := 20) hx hb dX10_ofOwner_11 (by decide) (fun _ => ?_) (fun c9 => absurd c9 (by decide))
  refine lv_iload_n hx hb dX10_ofOwner_20 rfl (lv_at hl 2 rfl) ?_
  refine lv_iconst (v := 0) hx hb dX10_ofOwner_21 (by decide) ?_
  refine lv_iconst (v := 1) hx hb dX10_ofOwner_22 (by decide) ?_
  refine y_cSi (D := (dC, dI)) (cl := vwCl) (tys := yt ca) (nw := zw_nest) (As := [.int a2, .int 0, .int 1]) (rest := []) ⟨hx, hb, hml, hown, hts⟩ (m_X10_isn l dC dI ca (fun z : Heap => z = H) a2 0 1 h) (cwS 3 hts gX10_ofOwner_X10_is rfl rfl rfl (by decide +kernel) ⟨Nat.le_of_ble_eq_true rfl, Nat.le_of_ble_eq_true rfl⟩) rfl hK hN hX zw_nest_ok rfl hl.1 rfl (Nat.le_of_ble_eq_true rfl) dX10_ofOwner_23 ⟨Nat.le_of_ble_eq_true rfl, Nat.le_of_ble_eq_true rfl⟩ hS (fun _ h => h.elim) (fun H locs hB1 oq1 hz1 hS => ?_)
  have hH : z_H (dC, dI) vwCl yf ca yd ad (yM 0) H := by rw [hB1]; exact hH
  have hMo : yMo dC dI mo 0 (ad 0) sm H := by rw [hB1]; exact hMo
  refine lv_if_eq (tgt := 56) hx hb dX10_ofOwner_26 (by decide) (fun _ => ?_) (fun c9 => absurd c9 (by decide))
  refine lv_aload_n hx hb dX10_ofOwner_56 rfl (lv_at hl 0 rfl) ?_
  refine lv_iconst (v := 2) hx hb dX10_ofOwner_57 (by decide) ?_
  refine y_cVi (D := (dC, dI)) (cl := vwCl) (tys := yt ca) (nw := zw_nest) (C := RX10) (As := [.int 2]) (rest := []) ⟨hx, hb, hml, hown, hts⟩ (m_X10_refuse l dC dI ca mo H.size ad hI hm 0 sm 2 ) (cwV 1 hts gX10_ofOwner_X10_refuse rfl rfl rfl (by decide +kernel) ⟨Nat.le_of_ble_eq_true rfl, Nat.le_of_ble_eq_true rfl⟩) (va_recv hK (y_one hMo) (ci := 10) rfl (q0 := 0) rfl) ⟨rfl, hMo, hH⟩ hK hN hX zw_nest_ok rfl hl.1 rfl (Nat.le_of_ble_eq_true rfl) dX10_ofOwner_58 ⟨Nat.le_of_ble_eq_true rfl, Nat.le_of_ble_eq_true rfl⟩ hS (yA_mono (by have b0 := hS.1; omega)) (fun H locs hB1 oq1 hz1 hS => ?_)
  obtain ⟨hMo, hH⟩ := hB1
  refine W.widen (k := 0) (n := 0) (Nat.le_of_ble_eq_true rfl) (Nat.le_of_ble_eq_true rfl) ?_
  exact W.iret (v := 0) hx hb hr (fun t ht hW => ⟨⟨0, (), rfl, rfl, z_to (B := (fun H => yMo dC dI mo 2 (ad 0) sm H ∧ yW dC dI ca ad (yM 0) H)) ht ⟨hMo, hH⟩⟩, hS.F ht⟩) hS.2.2 dX10_ofOwner_61
set_option maxHeartbeats 4000000 in
set_option maxRecDepth 100000 in
theorem m_X10_ofOwnery (l : Launch) (dC : Nat → ClassId) (dI : Nat → Nat → Nat) (ca : Nat → ClassId) (mo sz : Nat) (ad : Nat → Nat) (hI : z_I yd ad) (hm : ∀ i, yd.1 i < 200 → ad i ≠ mo) (th : Int32) (sm : Int64) (a1 a2 : Int32) (h1 : z_rg a1 0 1) (h : z_rg a2 0 1): Met l yX10_ofOwner wsX10_ofOwner ({ frames := 1, cells := 0, slots := 0, locals := 23 }) (z_Py (dC, dI) vwCl (yt ca) zw_nest [.ref mo, .int a1, .int a2] (fun H => H.size = sz ∧ yMo dC dI mo th (ad 0) sm H ∧ yW dC dI ca ad (yM 0) H)) (z_Qi (if a2 = 0 then 100 else 0) (fun H => yMo dC dI mo 0 (ad 0) sm H ∧ yW dC dI ca ad (yM 0) H) (yA mo ad sz)) 0 0 (yA mo ad sz) := by
  refine Met.ofW (cc := cX10_ofOwner) (maxL := 3) (ret := (some .int)) (by decide) rfl ?_
  intro p e s m args below meth c s₁ B9 hml hv
  obtain ⟨rfl, ⟨hz, hMo, hH⟩, hK, hN, hX⟩ := hv
  have hx := B9.exec
  have hb := B9.bytes
  have hr := B9.returns
  have hts := atoms_spec (ws := wsX10_ofOwner) B9.pre
  have hown : s.vm.findClass RX10 = some m.cls := findClass_of_methodNamed B9.named
  have hlocks := B9.notSynchronized
  have hS : va_S (yA mo ad sz) s.heap s.heap [] := va_S.rf
  have hba : ∀ i, yd.1 i < 200 → ad i < sz := fun i hi => by have b0 := hH.lt hi; omega
  have hbm : mo < sz := by have b0 := va_at.lt hMo; exact hz ▸ b0
  have hAs : ∀ q, s.heap.size ≤ q → (yA mo ad sz) q := fun q h => Or.inr (Or.inr (hz ▸ h))
  have hinX10 : ∀ w ∈ u_ws RX10 TX10 3, w ∈ wsX10_ofOwner := by decide +kernel
  have hinX9 : ∀ w ∈ u_ws RX9 TX9 24, w ∈ wsX10_ofOwner := by decide +kernel
  have hl := lv_entry ([.ref mo, .int a1, .int a2]) (n := 3) (Nat.le_of_ble_eq_true rfl)
  rw [lg_entry_eq]
  generalize (lg_sl ([.ref mo, .int a1, .int a2]) ++ List.replicate (3 - (lg_sl ([.ref mo, .int a1, .int a2])).length) Slot.unset).toArray = ls at hl ⊢
  have hl : lv_has ls 3 [(0, .ref mo), (1, .int a1), (2, .int a2)] := hl
  refine lv_aload_n hx hb dX10_ofOwner_0 rfl (lv_at hl 0 rfl) ?_
  refine lv_iconst (v := 0) hx hb dX10_ofOwner_1 (by decide) ?_
  refine yo_put (D := (dC, dI)) (cl := vwCl) (C := RX10) (T := TX10) (N := 3) (ci := 10) (ty := .int) hx hb hts hinX10 tyX10 tyX10_ok nmX10 hown hK hMo hS (Or.inl rfl) rfl 0 (by decide) (hts (.fieldLink RX10 16 "SteamfieldModel" "thrown" "I") (by decide +kernel)) (fun _ h9 => h9) rfl (by decide +kernel) rfl rfl (show 0 < 3 by decide) dX10_ofOwner_2 (fun H locs hMo z9 oq hS => ?_)
  have hMo : yMo dC dI mo 0 (ad 0) sm H := hMo
  have hH := hH.kept (fun i hi => oq _ (hm i hi))
  refine lv_iload_n hx hb dX10_ofOwner_5 rfl (lv_at hl 1 rfl) ?_
  refine lv_iconst (v := 0) hx hb dX10_ofOwner_6 (by decide) ?_
  refine lv_iconst (v := 1) hx hb dX10_ofOwner_7 (by decide) ?_
  refine y_cSi (D := (dC, dI)) (cl := vwCl) (tys := yt ca) (nw := zw_nest) (As := [.int a1, .int 0, .int 1]) (rest := []) ⟨hx, hb, hml, hown, hts⟩ (m_X10_isy l dC dI ca (fun z : Heap => z = H) a1 0 1 h1) (cwS 3 hts gX10_ofOwner_X10_is rfl rfl rfl (by decide +kernel) ⟨Nat.le_of_ble_eq_true rfl, Nat.le_of_ble_eq_true rfl⟩) rfl hK hN hX zw_nest_ok rfl hl.1 rfl (Nat.le_of_ble_eq_true rfl) dX10_ofOwner_8 ⟨Nat.le_of_ble_eq_true rfl, Nat.le_of_ble_eq_true rfl⟩ hS (fun _ h => h.elim) (fun H locs hB1 oq1 hz1 hS => ?_)
  have hH : z_H (dC, dI) vwCl yf ca yd ad (yM 0) H := by rw [hB1]; exact hH
  have hMo : yMo dC dI mo 0 (ad 0) sm H := by rw [hB1]; exact hMo
  refine lv_if_ne (tgt := 20) hx hb dX10_ofOwner_11 (by decide) (fun _ => ?_) (fun c9 => absurd c9 (by decide))
  refine lv_iload_n hx hb dX10_ofOwner_20 rfl (lv_at hl 2 rfl) ?_
  refine lv_iconst (v := 0) hx hb dX10_ofOwner_21 (by decide) ?_
  refine lv_iconst (v := 1) hx hb dX10_ofOwner_22 (by decide) ?_
  refine y_cSi (D := (dC, dI)) (cl := vwCl) (tys := yt ca) (nw := zw_nest) (As := [.int a2, .int 0, .int 1]) (rest := []) ⟨hx, hb, hml, hown, hts⟩ (m_X10_isy l dC dI ca (fun z : Heap => z = H) a2 0 1 h) (cwS 3 hts gX10_ofOwner_X10_is rfl rfl rfl (by decide +kernel) ⟨Nat.le_of_ble_eq_true rfl, Nat.le_of_ble_eq_true rfl⟩) rfl hK hN hX zw_nest_ok rfl hl.1 rfl (Nat.le_of_ble_eq_true rfl) dX10_ofOwner_23 ⟨Nat.le_of_ble_eq_true rfl, Nat.le_of_ble_eq_true rfl⟩ hS (fun _ h => h.elim) (fun H locs hB1 oq1 hz1 hS => ?_)
  have hH : z_H (dC, dI) vwCl yf ca yd ad (yM 0) H := by rw [hB1]; exact hH
  have hMo : yMo dC dI mo 0 (ad 0) sm H := by rw [hB1]; exact hMo
  refine lv_if_eq (tgt := 56) hx hb dX10_ofOwner_26 (by decide) (fun c9 => absurd c9 (by decide)) (fun _ => ?_)
  refine lv_iload_n hx hb dX10_ofOwner_29 rfl (lv_at hl 2 rfl) ?_
  refine lv_if_ne (tgt := 45) hx hb dX10_ofOwner_30 (by decide) (fun c1 => ?_) (fun c1 => ?_)
  · refine lv_aload_n hx hb dX10_ofOwner_45 rfl (lv_at hl 0 rfl) ?_
    refine yo_get (D := (dC, dI)) (cl := vwCl) (C := RX10) (T := TX10) (N := 3) (ci := 10) (v := .ref (ad 0)) hx hb hts hinX10 hown hK hMo rfl 1 (by decide) (hts (.fieldLink RX10 10 "SteamfieldModel" "field" "LSteamfieldModel$Field;") (by decide +kernel)) (fun _ h9 => h9) rfl dX10_ofOwner_46 ?_
    refine lv_iload_n hx hb dX10_ofOwner_49 rfl (lv_at hl 1 rfl) ?_
    refine y_cVi (D := (dC, dI)) (cl := vwCl) (tys := yt ca) (nw := zw_nest) (C := RX9) (As := [.int a1]) (rest := []) ⟨hx, hb, hml, hown, hts⟩ (m_X9_share l dC dI ca ad hI 0 (by decide) a1 ) (cwV 1 hts gX10_ofOwner_X9_share rfl rfl rfl (by decide +kernel) ⟨Nat.le_of_ble_eq_true rfl, Nat.le_of_ble_eq_true rfl⟩) (z_recv (ci := 9) (i := 0) hK hH yk_0 (by decide) rfl) hH hK hN hX zw_nest_ok rfl hl.1 rfl (Nat.le_of_ble_eq_true rfl) dX10_ofOwner_50 ⟨Nat.le_of_ble_eq_true rfl, Nat.le_of_ble_eq_true rfl⟩ hS (fun _ h => Or.inr (Or.inl h)) (fun H locs hB1 oq1 hz1 hS => ?_)
    have hMo := va_at.kept hMo (oq1 _ (va_at.lt hMo) (fun ⟨j, hj, e9⟩ => hm j hj e9))
    have hH : z_H (dC, dI) vwCl yf ca yd ad (yM 0) H := hB1
    refine lv_goto (tgt := 61) hx hb dX10_ofOwner_53 (by decide) ?_
    refine W.widen (k := 0) (n := 0) (Nat.le_of_ble_eq_true rfl) (Nat.le_of_ble_eq_true rfl) ?_
    exact W.iret (v := 0) hx hb hr (fun t ht hW => ⟨⟨0, (), rfl, (if_neg c1).symm, z_to (B := (fun H => yMo dC dI mo 0 (ad 0) sm H ∧ yW dC dI ca ad (yM 0) H)) ht ⟨hMo, hH⟩⟩, hS.F ht⟩) hS.2.2 dX10_ofOwner_61
  · refine lv_aload_n hx hb dX10_ofOwner_33 rfl (lv_at hl 0 rfl) ?_
    refine yo_get (D := (dC, dI)) (cl := vwCl) (C := RX10) (T := TX10) (N := 3) (ci := 10) (v := .ref (ad 0)) hx hb hts hinX10 hown hK hMo rfl 1 (by decide) (hts (.fieldLink RX10 10 "SteamfieldModel" "field" "LSteamfieldModel$Field;") (by decide +kernel)) (fun _ h9 => h9) rfl dX10_ofOwner_34 ?_
    refine z_grN (D := (dC, dI)) (cl := vwCl) (C := RX9) (T := TX9) (N := 24) (ci := 9) (k := 12) hx hb hts hinX9 hown hK hH (i := 0) yk_0 (by decide) rfl (by decide) rfl yr_12 (hN (.fieldLinkNest RX10 64 "SteamfieldModel$Field" "coins" "[I" "SteamfieldModel") (by decide +kernel)) (fun _ h9 => h9) dX10_ofOwner_37 ?_
    refine lv_iload_n hx hb dX10_ofOwner_40 rfl (lv_at hl 1 rfl) ?_
    refine z_al (t0 := 0) (D := (dC, dI)) (cl := vwCl) (tys := yt ca) hx hb hK hH (i := 38) yk_38 rfl (show vp_in a1 2 from z_ix.in (z_ix_rg h1 (by decide) (by decide))) dX10_ofOwner_41 ?_
    refine y_num (b := 100) (y_coin h1) ?_
    refine lv_goto (tgt := 61) hx hb dX10_ofOwner_42 (by decide) ?_
    refine W.widen (k := 0) (n := 0) (Nat.le_of_ble_eq_true rfl) (Nat.le_of_ble_eq_true rfl) ?_
    exact W.iret (v := 100) hx hb hr (fun t ht hW => ⟨⟨100, (), rfl, (if_pos c1).symm, z_to (B := (fun H => yMo dC dI mo 0 (ad 0) sm H ∧ yW dC dI ca ad (yM 0) H)) ht ⟨hMo, hH⟩⟩, hS.F ht⟩) hS.2.2 dX10_ofOwner_61
