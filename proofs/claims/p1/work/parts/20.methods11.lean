def bX8_bestValves_33 (M : zM) (a0 : Int32) (x1 : Int32) (i3 : Int32) (k10 : Nat) (st : zM × Int32 × Int32) : zM × Int32 × Int32 :=
  let N13 : zM := st.1
  let a14 : Int32 := st.2.1
  let a15 : Int32 := st.2.2
  let i11 : Int32 := nI (3 * k10)
  let M18 : zM := fX3_copyFrom N13 M 
  let M19 : zM := fX3_turnAll M18 i3 i11
  let x20 : Int32 := rX8_powerIn M19 a0
  let M21 : zM := fX8_powerIn M19 a0
  let x22 : Int32 := rX3_lackedEver M21 
  let x23 : Int32 := x22 - x1
  let x24 : Int32 := 3 * x23
  let x25 : Int32 := x20 - x24
  let x27 : Int32 := if a14 = (-1) then (let x27 : Int32 := 10 * i3; let x28 : Int32 := x27 + i11; x28) else (let x28 : Int32 := if x25 ≤ a15 then a14 else (let x28 : Int32 := 10 * i3; let x29 : Int32 := x28 + i11; x29); let x29 : Int32 := if x25 ≤ a15 then a15 else (let x28 : Int32 := 10 * i3; let x29 : Int32 := x28 + i11; x25); x28)
  let x28 : Int32 := if a14 = (-1) then (let x27 : Int32 := 10 * i3; let x28 : Int32 := x27 + i11; x25) else (let x28 : Int32 := if x25 ≤ a15 then a14 else (let x28 : Int32 := 10 * i3; let x29 : Int32 := x28 + i11; x29); let x29 : Int32 := if x25 ≤ a15 then a15 else (let x28 : Int32 := 10 * i3; let x29 : Int32 := x28 + i11; x25); x29)
  (M21, x27, x28)
def bX8_bestValves_23 (M : zM) (a0 : Int32) (x1 : Int32) (k2 : Nat) (st : zM × Int32 × Int32) : zM × Int32 × Int32 :=
  let N5 : zM := st.1
  let a6 : Int32 := st.2.1
  let a7 : Int32 := st.2.2
  let i3 : Int32 := nI (3 * k2)
  let N13 : zM := (zit (bX8_bestValves_33 M a0 x1 i3) (4) (N5, a6, a7)).1
  let a14 : Int32 := (zit (bX8_bestValves_33 M a0 x1 i3) (4) (N5, a6, a7)).2.1
  let a15 : Int32 := (zit (bX8_bestValves_33 M a0 x1 i3) (4) (N5, a6, a7)).2.2
  (N13, a14, a15)
def gX8_bestValves (M : zM) (N : zM) (a0 : Int32) : zM :=
  let x1 : Int32 := rX3_lackedEver M 
  let N5 : zM := (zit (bX8_bestValves_23 M a0 x1) (4) (N, (-1), 0)).1
  let a6 : Int32 := (zit (bX8_bestValves_23 M a0 x1) (4) (N, (-1), 0)).2.1
  let a7 : Int32 := (zit (bX8_bestValves_23 M a0 x1) (4) (N, (-1), 0)).2.2
  N5
def rX8_bestValves (M : zM) (N : zM) (a0 : Int32) : Int32 :=
  let x1 : Int32 := rX3_lackedEver M 
  let N5 : zM := (zit (bX8_bestValves_23 M a0 x1) (4) (N, (-1), 0)).1
  let a6 : Int32 := (zit (bX8_bestValves_23 M a0 x1) (4) (N, (-1), 0)).2.1
  let a7 : Int32 := (zit (bX8_bestValves_23 M a0 x1) (4) (N, (-1), 0)).2.2
  a6
set_option maxHeartbeats 4000000 in
set_option maxRecDepth 100000 in
theorem m_X8_bestValves (l : Launch) (dC : Nat → ClassId) (dI : Nat → Nat → Nat) (ca : Nat → ClassId) (sf : Nat) (ad : Nat → Nat) (hI : z_I zd ad) (ad2 : Nat → Nat) (hI2 : z_I zd ad2) (hq : zSep sf ad ad2) (M : zM) (N : zM) (a0 : Int32) (hOk0 : z_Ok M) (r_a0 : z_rg a0 1 12) (h_run : M 6 1 = 0 ∨ M 6 1 = 1) : Met l yX8_bestValves wsX8_bestValves ({ frames := 5, cells := 0, slots := 0, locals := 120 }) (z_Pc (dC, dI) vwCl (zt ca) zw_nest [.ref sf, .int a0] (fun H => zT dC dI ca sf (ad 0) (ad2 0) H ∧ zW dC dI ca ad M H ∧ zW dC dI ca ad2 N H)) (z_Qi (rX8_bestValves M N a0) (fun H => zT dC dI ca sf (ad 0) (ad2 0) H ∧ zW dC dI ca ad M H ∧ zW dC dI ca ad2 (gX8_bestValves M N a0) H) (zA2 ad ad2)) 0 0 (zA2 ad ad2) := by
  refine Met.ofW (cc := cX8_bestValves) (maxL := 9) (ret := (some .int)) (by decide) rfl ?_
  intro p e s m args below meth c s₁ B9 hml hv
  obtain ⟨rfl, ⟨hT, hH, hG⟩, hK, hN⟩ := hv
  have hx := B9.exec
  have hb := B9.bytes
  have hr := B9.returns
  have hts := atoms_spec (ws := wsX8_bestValves) B9.pre
  have hown : s.vm.findClass RX8 = some m.cls := findClass_of_methodNamed B9.named
  have hlocks := B9.notSynchronized
  have hS : va_S (zA2 ad ad2) s.heap s.heap [] := va_S.rf
  have hOk := hOk0
  have hFx : z_Fx M M := z_Fx.rf
  have hT : zT dC dI ca sf (ad 0) (ad2 0) s.heap := hT
  have hH : zW dC dI ca ad M s.heap := hH
  have hG : zW dC dI ca ad2 N s.heap := hG
  have hinX8 : ∀ w ∈ u_ws RX8 TX8 2, w ∈ wsX8_bestValves := by decide +kernel
  have hl := lv_entry ([.ref sf, .int a0]) (n := 9) (Nat.le_of_ble_eq_true rfl)
  rw [lg_entry_eq]
  generalize (lg_sl ([.ref sf, .int a0]) ++ List.replicate (9 - (lg_sl ([.ref sf, .int a0])).length) Slot.unset).toArray = ls at hl ⊢
  have hl : lv_has ls 9 [(0, .ref sf), (1, .int a0)] := hl
  refine lv_iload_n hx hb dX8_bestValves_0 rfl (lv_at hl 1 rfl) ?_
  refine lv_iconst (v := 1) hx hb dX8_bestValves_1 (by decide) ?_
  refine lv_bipush (v := 12) hx hb dX8_bestValves_2 (by decide) ?_
  refine z_cSv (D := (dC, dI)) (cl := vwCl) (tys := zt ca) (nw := zw_nest) (As := [.int a0, .int 1, .int 12]) (rest := []) ⟨hx, hb, hml, hown, hts⟩ (m_X8_needRange l dC dI ca (fun z : Heap => z = s.heap)  a0 1 12 r_a0) (cwS 3 hts gX8_bestValves_X8_needRange rfl rfl rfl (by decide +kernel) ⟨Nat.le_of_ble_eq_true rfl, Nat.le_of_ble_eq_true rfl⟩) rfl hK hN zw_nest_ok rfl hl.1 rfl (Nat.le_of_ble_eq_true rfl) dX8_bestValves_4 ⟨Nat.le_refl _, Nat.le_refl _⟩ hS (fun _ h => h.elim) (fun H locs hB1 oq1 hz1 hS => ?_)
  have hT : zT dC dI ca sf (ad 0) (ad2 0) H := by rw [hB1]; exact hT
  have hH : zW dC dI ca ad M H := by rw [hB1]; exact hH
  have hG : zW dC dI ca ad2 N H := by rw [hB1]; exact hG
  refine lv_aload_n hx hb dX8_bestValves_7 rfl (lv_at hl 0 rfl) ?_
  refine z_gS (k := 0) (v := ad 0) hx hb hts hinX8 hown hK hT (by decide) rfl (hts (.fieldLink RX8 10 "Steamfield" "land" "LSteamfield$Land;") (by decide +kernel)) (fun _ h9 => h9) dX8_bestValves_8 ?_
  refine z_cVi (D := (dC, dI)) (cl := vwCl) (tys := zt ca) (nw := zw_nest) (C := RX3) (As := []) (rest := []) ⟨hx, hb, hml, hown, hts⟩ (m_X3_lackedEver l dC dI ca ad hI M hOk) (cwV 0 hts gX8_bestValves_X3_lackedEver rfl rfl rfl (by decide +kernel) ⟨Nat.le_of_ble_eq_true rfl, Nat.le_of_ble_eq_true rfl⟩) (z_recv (ci := 3) (i := 0) hK hH zk_0 (by decide) rfl) hH hK hN zw_nest_ok rfl hl.1 rfl (Nat.le_of_ble_eq_true rfl) dX8_bestValves_11 ⟨Nat.le_refl _, Nat.le_refl _⟩ hS (fun _ h => Or.inl h) (fun H locs hB1 oq1 hz1 hS => ?_)
  have hT := zT_c hT oq1 hq.a1
  have hG := zW_c hG oq1 hq.x
  have hH := hB1
  refine lv_topi (fun x1 ex1 => ?_)
  refine lv_istore_n (lv' := [(2, .int x1), (0, .ref sf), (1, .int a0)]) hx hb dX8_bestValves_14 rfl hl (by decide) rfl (fun ls hl => ?_)
  refine lv_iconst (v := (-1)) hx hb dX8_bestValves_15 (by decide) ?_
  refine lv_istore_n (lv' := [(3, .int (-1)), (2, .int x1), (0, .ref sf), (1, .int a0)]) hx hb dX8_bestValves_16 rfl hl (by decide) rfl (fun ls hl => ?_)
  refine lv_iconst (v := 0) hx hb dX8_bestValves_17 (by decide) ?_
  refine lv_istore (lv' := [(4, .int 0), (3, .int (-1)), (2, .int x1), (0, .ref sf), (1, .int a0)]) hx hb dX8_bestValves_18 hl (by decide) rfl (fun ls hl => ?_)
  refine lv_iconst (v := 0) hx hb dX8_bestValves_20 (by decide) ?_
  refine lv_istore (lv' := [(5, .int 0), (4, .int 0), (3, .int (-1)), (2, .int x1), (0, .ref sf), (1, .int a0)]) hx hb dX8_bestValves_21 hl (by decide) rfl (fun ls hl => ?_)
  have L8 : ∀ (d4 k2 : Nat), k2 ≤ 4 → 4 - k2 < d4 → ∀ N5 : zM, ∀ a6 : Int32, ∀ a7 : Int32, (N5, a6, a7) = zit (bX8_bestValves_23 M a0 x1) k2 (N, (-1), 0) → ∀ i3 : Int32, i3 = nI (3 * k2) → ∀ ls : Array Slot, lv_has ls 9 [(0, .ref sf), (1, .int a0), (2, .int x1), (3, .int a6), (4, .int a7), (5, .int i3)] → ∀ (H : Heap) (locs : List Loc), zT dC dI ca sf (ad 0) (ad2 0) H → zW dC dI ca ad M H → zW dC dI ca ad2 N5 H → va_S (zA2 ad ad2) s.heap H locs → W p l e (headSpec wsX8_bestValves ({ frames := 5, cells := 0, slots := 0, locals := 120 })).room s m ([.ref sf, .int a0] : List Value).toArray below meth c H locs 0 0 (MQ below (z_Qi (rX8_bestValves M N a0) (fun H => zT dC dI ca sf (ad 0) (ad2 0) H ∧ zW dC dI ca ad M H ∧ zW dC dI ca ad2 (gX8_bestValves M N a0) H) (zA2 ad ad2)) ([.ref sf, .int a0] : List Value).toArray s 0 0 (zA2 ad ad2)) (F0 m 23 ls []) := by
    intro d4
    induction d4 with
    | zero => intro k2 hk2 hd; exact absurd hd (by omega)
    | succ d4 ihk2 =>
      intro k2 hk2 hd N5 a6 a7 esk2 i3 ei3 ls hl H locs hT hH hG hS
      refine lv_iload hx hb dX8_bestValves_23 (lv_at hl 5 rfl) ?_
      refine lv_bipush (v := 9) hx hb dX8_bestValves_25 (by decide) ?_
      refine lv_icmp_gt (tgt := 125) hx hb dX8_bestValves_27 (by decide) (fun c9 => ?_) (fun c9 => ?_)
      · have hkk2 : k2 = 4 := z_gt3 ei3 hk2 c9
        have qN5 : N5 = (zit (bX8_bestValves_23 M a0 x1) (4) (N, (-1), 0)).1 := by rw [← hkk2, ← esk2]
        have qa6 : a6 = (zit (bX8_bestValves_23 M a0 x1) (4) (N, (-1), 0)).2.1 := by rw [← hkk2, ← esk2]
        have qa7 : a7 = (zit (bX8_bestValves_23 M a0 x1) (4) (N, (-1), 0)).2.2 := by rw [← hkk2, ← esk2]
        refine lv_iload_n hx hb dX8_bestValves_125 rfl (lv_at hl 3 rfl) ?_
        have hF1 : zW dC dI ca ad2 (gX8_bestValves M N a0) H := by
          have e9 : N5 = (gX8_bestValves M N a0) := by subst qa7; subst qa6; subst qN5; subst ex1; rfl
          rw [← e9]; exact hG
        have hR : a6 = rX8_bestValves M N a0 := by subst qa7; subst qa6; subst qN5; subst ex1; rfl
        exact W.iret (v := a6) hx hb hr (fun t ht hW => ⟨⟨a6, (), rfl, hR, z_to (B := fun H => zT dC dI ca sf (ad 0) (ad2 0) H ∧ zW dC dI ca ad M H ∧ zW dC dI ca ad2 (gX8_bestValves M N a0) H) ht ⟨hT, hH, hF1⟩⟩, hS.F ht⟩) hS.2.2 dX8_bestValves_126
      · have hkk2 : k2 < 4 := z_ngt3 ei3 hk2 c9
        refine lv_iconst (v := 0) hx hb dX8_bestValves_30 (by decide) ?_
        refine lv_istore (lv' := [(6, .int 0), (0, .ref sf), (1, .int a0), (2, .int x1), (3, .int a6), (4, .int a7), (5, .int i3)]) hx hb dX8_bestValves_31 hl (by decide) rfl (fun ls hl => ?_)
        have L16 : ∀ (d12 k10 : Nat), k10 ≤ 4 → 4 - k10 < d12 → ∀ N13 : zM, ∀ a14 : Int32, ∀ a15 : Int32, (N13, a14, a15) = zit (bX8_bestValves_33 M a0 x1 i3) k10 (N5, a6, a7) → ∀ i11 : Int32, i11 = nI (3 * k10) → ∀ ls : Array Slot, lv_has ls 9 [(0, .ref sf), (1, .int a0), (2, .int x1), (3, .int a14), (4, .int a15), (5, .int i3), (6, .int i11)] → ∀ (H : Heap) (locs : List Loc), zT dC dI ca sf (ad 0) (ad2 0) H → zW dC dI ca ad M H → zW dC dI ca ad2 N13 H → va_S (zA2 ad ad2) s.heap H locs → W p l e (headSpec wsX8_bestValves ({ frames := 5, cells := 0, slots := 0, locals := 120 })).room s m ([.ref sf, .int a0] : List Value).toArray below meth c H locs 0 0 (MQ below (z_Qi (rX8_bestValves M N a0) (fun H => zT dC dI ca sf (ad 0) (ad2 0) H ∧ zW dC dI ca ad M H ∧ zW dC dI ca ad2 (gX8_bestValves M N a0) H) (zA2 ad ad2)) ([.ref sf, .int a0] : List Value).toArray s 0 0 (zA2 ad ad2)) (F0 m 33 ls []) := by
          intro d12
          induction d12 with
          | zero => intro k10 hk10 hd; exact absurd hd (by omega)
          | succ d12 ihk10 =>
            intro k10 hk10 hd N13 a14 a15 esk10 i11 ei11 ls hl H locs hT hH hG hS
            refine lv_iload hx hb dX8_bestValves_33 (lv_at hl 6 rfl) ?_
            refine lv_bipush (v := 9) hx hb dX8_bestValves_35 (by decide) ?_
            refine lv_icmp_gt (tgt := 119) hx hb dX8_bestValves_37 (by decide) (fun c17 => ?_) (fun c17 => ?_)
            · have hkk10 : k10 = 4 := z_gt3 ei11 hk10 c17
              have qN13 : N13 = (zit (bX8_bestValves_33 M a0 x1 i3) (4) (N5, a6, a7)).1 := by rw [← hkk10, ← esk10]
              have qa14 : a14 = (zit (bX8_bestValves_33 M a0 x1 i3) (4) (N5, a6, a7)).2.1 := by rw [← hkk10, ← esk10]
              have qa15 : a15 = (zit (bX8_bestValves_33 M a0 x1 i3) (4) (N5, a6, a7)).2.2 := by rw [← hkk10, ← esk10]
              obtain ⟨x31, ex31⟩ : ∃ z : Int32, z = i3 + 3 := ⟨_, rfl⟩
              refine lv_iinc (v := x31) (lv' := [(5, .int x31), (0, .ref sf), (1, .int a0), (2, .int x1), (3, .int a14), (4, .int a15), (6, .int i11)]) hx hb dX8_bestValves_119 hl (k := 5) rfl (by rw [ex31]; rfl) (by decide) rfl (fun ls hl => ?_)
              refine lv_goto (tgt := 23) hx hb dX8_bestValves_122 (by decide) ?_
              exact ihk2 (k2 + 1) hkk2 (by omega) N13 a14 a15 (by rw [zit_s, ← esk2]; subst ex31; subst qa15; subst qa14; subst qN13; subst ei3; rfl) x31 (z_nx3 ei3 ex31) ls (lv_sub hl [1, 2, 3, 4, 5, 0] rfl) _ _ hT hH hG hS
            · have hkk10 : k10 < 4 := z_ngt3 ei11 hk10 c17
              refine lv_aload_n hx hb dX8_bestValves_40 rfl (lv_at hl 0 rfl) ?_
              refine z_gS (k := 1) (v := ad2 0) hx hb hts hinX8 hown hK hT (by decide) rfl (hts (.fieldLink RX8 16 "Steamfield" "trial" "LSteamfield$Land;") (by decide +kernel)) (fun _ h9 => h9) dX8_bestValves_41 ?_
              refine lv_aload_n hx hb dX8_bestValves_44 rfl (lv_at hl 0 rfl) ?_
              refine z_gS (k := 0) (v := ad 0) hx hb hts hinX8 hown hK hT (by decide) rfl (hts (.fieldLink RX8 10 "Steamfield" "land" "LSteamfield$Land;") (by decide +kernel)) (fun _ h9 => h9) dX8_bestValves_45 ?_
              refine z_cVv (D := (dC, dI)) (cl := vwCl) (tys := zt ca) (nw := zw_nest) (C := RX3) (As := [.ref (ad 0)]) (rest := []) ⟨hx, hb, hml, hown, hts⟩ (m_X3_copyFrom l dC dI ca ad2 hI2 ad hI hq.xs N13 M hOk h_run) (cwV 1 hts gX8_bestValves_X3_copyFrom rfl rfl rfl (by decide +kernel) ⟨Nat.le_of_ble_eq_true rfl, Nat.le_of_ble_eq_true rfl⟩) (z_recv (ci := 3) (i := 0) hK hG zk_0 (by decide) rfl) ⟨hG, hH⟩ hK hN zw_nest_ok rfl hl.1 rfl (Nat.le_of_ble_eq_true rfl) dX8_bestValves_48 ⟨Nat.le_refl _, Nat.le_refl _⟩ hS (fun _ h => Or.inr h) (fun H locs hB1 oq1 hz1 hS => ?_)
              have hT := zT_c hT oq1 hq.a2
              obtain ⟨hG, hH⟩ := hB1
              obtain ⟨M18, hM18⟩ : ∃ z : zM, z = fX3_copyFrom N13 M  := ⟨_, rfl⟩
              have hG : z_H (dC, dI) vwCl zf ca zd ad2 M18 H := by rw [hM18]; exact hG
              have hOk2 : z_Ok M18 := by rw [hM18]; exact ok_X3_copyFrom _ _ hOk
              refine lv_aload_n hx hb dX8_bestValves_51 rfl (lv_at hl 0 rfl) ?_
              refine z_gS (k := 1) (v := ad2 0) hx hb hts hinX8 hown hK hT (by decide) rfl (hts (.fieldLink RX8 16 "Steamfield" "trial" "LSteamfield$Land;") (by decide +kernel)) (fun _ h9 => h9) dX8_bestValves_52 ?_
              refine lv_iload hx hb dX8_bestValves_55 (lv_at hl 5 rfl) ?_
              refine lv_iload hx hb dX8_bestValves_57 (lv_at hl 6 rfl) ?_
              refine z_cVv (D := (dC, dI)) (cl := vwCl) (tys := zt ca) (nw := zw_nest) (C := RX3) (As := [.int i3, .int i11]) (rest := []) ⟨hx, hb, hml, hown, hts⟩ (m_X3_turnAll l dC dI ca ad2 hI2 M18 i3 i11 hOk2) (cwV 2 hts gX8_bestValves_X3_turnAll rfl rfl rfl (by decide +kernel) ⟨Nat.le_of_ble_eq_true rfl, Nat.le_of_ble_eq_true rfl⟩) (z_recv (ci := 3) (i := 0) hK hG zk_0 (by decide) rfl) hG hK hN zw_nest_ok rfl hl.1 rfl (Nat.le_of_ble_eq_true rfl) dX8_bestValves_59 ⟨Nat.le_refl _, Nat.le_refl _⟩ hS (fun _ h => Or.inr h) (fun H locs hB1 oq1 hz1 hS => ?_)
              have hT := zT_c hT oq1 hq.a2
              have hH := zW_c hH oq1 hq.xs
              obtain ⟨hG, hFc⟩ := hB1
              obtain ⟨M19, hM19⟩ : ∃ z : zM, z = fX3_turnAll M18 i3 i11 := ⟨_, rfl⟩
              have hG : z_H (dC, dI) vwCl zf ca zd ad2 M19 H := by rw [hM19]; exact hG
              have hOk2 : z_Ok M19 := hOk2.fx (by rw [hM19]; exact hFc)
              refine lv_aload_n hx hb dX8_bestValves_62 rfl (lv_at hl 0 rfl) ?_
              refine z_gS (k := 1) (v := ad2 0) hx hb hts hinX8 hown hK hT (by decide) rfl (hts (.fieldLink RX8 16 "Steamfield" "trial" "LSteamfield$Land;") (by decide +kernel)) (fun _ h9 => h9) dX8_bestValves_63 ?_
              refine lv_iload_n hx hb dX8_bestValves_66 rfl (lv_at hl 1 rfl) ?_
              refine z_cSi (D := (dC, dI)) (cl := vwCl) (tys := zt ca) (nw := zw_nest) (As := [.ref (ad2 0), .int a0]) (rest := []) ⟨hx, hb, hml, hown, hts⟩ (m_X8_powerIn l dC dI ca ad2 hI2 M19 a0 hOk2 (z_ix.mono (z_ix_rg r_a0 (by decide) (by decide)) (Nat.le_of_ble_eq_true rfl))) (cwS 2 hts gX8_bestValves_X8_powerIn rfl rfl rfl (by decide +kernel) ⟨Nat.le_of_ble_eq_true rfl, Nat.le_of_ble_eq_true rfl⟩) hG hK hN zw_nest_ok rfl hl.1 rfl (Nat.le_of_ble_eq_true rfl) dX8_bestValves_67 ⟨Nat.le_refl _, Nat.le_refl _⟩ hS (fun _ h => Or.inr h) (fun H locs hB1 oq1 hz1 hS => ?_)
              have hT := zT_c hT oq1 hq.a2
              have hH := zW_c hH oq1 hq.xs
              obtain ⟨hG, hFc⟩ := hB1
              refine lv_topi (fun x20 ex20 => ?_)
              obtain ⟨M21, hM21⟩ : ∃ z : zM, z = fX8_powerIn M19 a0 := ⟨_, rfl⟩
              have hG : z_H (dC, dI) vwCl zf ca zd ad2 M21 H := by rw [hM21]; exact hG
              have hOk2 : z_Ok M21 := hOk2.fx (by rw [hM21]; exact hFc)
              refine lv_istore (lv' := [(7, .int x20), (0, .ref sf), (1, .int a0), (2, .int x1), (3, .int a14), (4, .int a15), (5, .int i3), (6, .int i11)]) hx hb dX8_bestValves_70 hl (by decide) rfl (fun ls hl => ?_)
              refine lv_iload hx hb dX8_bestValves_72 (lv_at hl 0 rfl) ?_
              refine lv_iconst (v := 3) hx hb dX8_bestValves_74 (by decide) ?_
              refine lv_aload_n hx hb dX8_bestValves_75 rfl (lv_at hl 1 rfl) ?_
              refine z_gS (k := 1) (v := ad2 0) hx hb hts hinX8 hown hK hT (by decide) rfl (hts (.fieldLink RX8 16 "Steamfield" "trial" "LSteamfield$Land;") (by decide +kernel)) (fun _ h9 => h9) dX8_bestValves_76 ?_
              refine z_cVi (D := (dC, dI)) (cl := vwCl) (tys := zt ca) (nw := zw_nest) (C := RX3) (As := []) (rest := [.int 3, .int x20]) ⟨hx, hb, hml, hown, hts⟩ (m_X3_lackedEver l dC dI ca ad2 hI2 M21 hOk2) (cwV 0 hts gX8_bestValves_X3_lackedEver rfl rfl rfl (by decide +kernel) ⟨Nat.le_of_ble_eq_true rfl, Nat.le_of_ble_eq_true rfl⟩) (z_recv (ci := 3) (i := 0) hK hG zk_0 (by decide) rfl) hG hK hN zw_nest_ok rfl hl.1 rfl (Nat.le_of_ble_eq_true rfl) dX8_bestValves_79 ⟨Nat.le_refl _, Nat.le_refl _⟩ hS (fun _ h => Or.inr h) (fun H locs hB1 oq1 hz1 hS => ?_)
              have hT := zT_c hT oq1 hq.a2
              have hH := zW_c hH oq1 hq.xs
              have hG := hB1
              refine lv_topi (fun x22 ex22 => ?_)
              refine lv_iload_n hx hb dX8_bestValves_82 rfl (lv_at hl 3 rfl) ?_
              refine lv_isub hx hb dX8_bestValves_83 ?_
              refine lv_topi (fun x23 ex23 => ?_)
              refine lv_imul hx hb dX8_bestValves_84 ?_
              refine lv_topi (fun x24 ex24 => ?_)
              refine lv_isub hx hb dX8_bestValves_85 ?_
              refine lv_topi (fun x25 ex25 => ?_)
              refine lv_istore (lv' := [(8, .int x25), (7, .int x20), (0, .ref sf), (1, .int a0), (2, .int x1), (3, .int a14), (4, .int a15), (5, .int i3), (6, .int i11)]) hx hb dX8_bestValves_86 hl (by decide) rfl (fun ls hl => ?_)
              refine lv_iload_n hx hb dX8_bestValves_88 rfl (lv_at hl 5 rfl) ?_
              refine lv_iconst (v := (-1)) hx hb dX8_bestValves_89 (by decide) ?_
              have J29 : ∀ x27 : Int32, x27 = (if a14 = (-1) then (let x27 : Int32 := 10 * i3; let x28 : Int32 := x27 + i11; x28) else (let x28 : Int32 := if x25 ≤ a15 then a14 else (let x28 : Int32 := 10 * i3; let x29 : Int32 := x28 + i11; x29); let x29 : Int32 := if x25 ≤ a15 then a15 else (let x28 : Int32 := 10 * i3; let x29 : Int32 := x28 + i11; x25); x28)) → ∀ x28 : Int32, x28 = (if a14 = (-1) then (let x27 : Int32 := 10 * i3; let x28 : Int32 := x27 + i11; x25) else (let x28 : Int32 := if x25 ≤ a15 then a14 else (let x28 : Int32 := 10 * i3; let x29 : Int32 := x28 + i11; x29); let x29 : Int32 := if x25 ≤ a15 then a15 else (let x28 : Int32 := 10 * i3; let x29 : Int32 := x28 + i11; x25); x29)) → ∀ ls : Array Slot, lv_has ls 9 [(0, .ref sf), (1, .int a0), (2, .int x1), (3, .int x27), (4, .int x28), (5, .int i3), (6, .int i11), (7, .int x20), (8, .int x25)] → W p l e (headSpec wsX8_bestValves ({ frames := 5, cells := 0, slots := 0, locals := 120 })).room s m ([.ref sf, .int a0] : List Value).toArray below meth c H locs 0 0 (MQ below (z_Qi (rX8_bestValves M N a0) (fun H => zT dC dI ca sf (ad 0) (ad2 0) H ∧ zW dC dI ca ad M H ∧ zW dC dI ca ad2 (gX8_bestValves M N a0) H) (zA2 ad ad2)) ([.ref sf, .int a0] : List Value).toArray s 0 0 (zA2 ad ad2)) (F0 m 113 ls []) := by
                intro x27 ex27 x28 ex28 ls hl
                obtain ⟨x30, ex30⟩ : ∃ z : Int32, z = i11 + 3 := ⟨_, rfl⟩
                refine lv_iinc (v := x30) (lv' := [(6, .int x30), (0, .ref sf), (1, .int a0), (2, .int x1), (3, .int x27), (4, .int x28), (5, .int i3), (7, .int x20), (8, .int x25)]) hx hb dX8_bestValves_113 hl (k := 6) rfl (by rw [ex30]; rfl) (by decide) rfl (fun ls hl => ?_)
                refine lv_goto (tgt := 33) hx hb dX8_bestValves_116 (by decide) ?_
                exact ihk10 (k10 + 1) hkk10 (by omega) M21 x27 x28 (by rw [zit_s, ← esk10]; subst ex30; subst ex28; subst ex27; subst ex25; subst ex24; subst ex23; subst ex22; subst hM21; subst ex20; subst hM19; subst hM18; subst ei11; rfl) x30 (z_nx3 ei11 ex30) ls (lv_sub hl [1, 2, 3, 4, 5, 6, 0] rfl) _ _ hT hH hG hS
              refine lv_icmp_eq (tgt := 100) hx hb dX8_bestValves_90 (by decide) (fun c26 => ?_) (fun c26 => ?_)
              · refine lv_bipush (v := 10) hx hb dX8_bestValves_100 (by decide) ?_
                refine lv_iload hx hb dX8_bestValves_102 (lv_at hl 7 rfl) ?_
                refine lv_imul hx hb dX8_bestValves_104 ?_
                refine lv_topi (fun x27 ex27 => ?_)
                refine lv_iload hx hb dX8_bestValves_105 (lv_at hl 8 rfl) ?_
                refine lv_iadd hx hb dX8_bestValves_107 ?_
                refine lv_topi (fun x28 ex28 => ?_)
                refine lv_istore_n (lv' := [(3, .int x28), (8, .int x25), (7, .int x20), (0, .ref sf), (1, .int a0), (2, .int x1), (4, .int a15), (5, .int i3), (6, .int i11)]) hx hb dX8_bestValves_108 rfl hl (by decide) rfl (fun ls hl => ?_)
                refine lv_iload hx hb dX8_bestValves_109 (lv_at hl 1 rfl) ?_
                refine lv_istore (lv' := [(4, .int x25), (3, .int x28), (8, .int x25), (7, .int x20), (0, .ref sf), (1, .int a0), (2, .int x1), (5, .int i3), (6, .int i11)]) hx hb dX8_bestValves_111 hl (by decide) rfl (fun ls hl => ?_)
                exact J29 _ (by subst ex28; subst ex27; exact (if_pos c26).symm) _ (by subst ex28; subst ex27; exact (if_pos c26).symm) ls (lv_sub hl [4, 5, 6, 1, 0, 7, 8, 3, 2] rfl)
              · refine lv_iload hx hb dX8_bestValves_93 (lv_at hl 0 rfl) ?_
                refine lv_iload hx hb dX8_bestValves_95 (lv_at hl 6 rfl) ?_
                have J30 : ∀ x28 : Int32, x28 = (if x25 ≤ a15 then a14 else (let x28 : Int32 := 10 * i3; let x29 : Int32 := x28 + i11; x29)) → ∀ x29 : Int32, x29 = (if x25 ≤ a15 then a15 else (let x28 : Int32 := 10 * i3; let x29 : Int32 := x28 + i11; x25)) → ∀ ls : Array Slot, lv_has ls 9 [(0, .ref sf), (1, .int a0), (2, .int x1), (3, .int x28), (4, .int x29), (5, .int i3), (6, .int i11), (7, .int x20), (8, .int x25)] → W p l e (headSpec wsX8_bestValves ({ frames := 5, cells := 0, slots := 0, locals := 120 })).room s m ([.ref sf, .int a0] : List Value).toArray below meth c H locs 0 0 (MQ below (z_Qi (rX8_bestValves M N a0) (fun H => zT dC dI ca sf (ad 0) (ad2 0) H ∧ zW dC dI ca ad M H ∧ zW dC dI ca ad2 (gX8_bestValves M N a0) H) (zA2 ad ad2)) ([.ref sf, .int a0] : List Value).toArray s 0 0 (zA2 ad ad2)) (F0 m 113 ls []) := by
                  intro x28 ex28 x29 ex29 ls hl
                  exact J29 _ (by subst ex29; subst ex28; exact (if_neg c26).symm) _ (by subst ex29; subst ex28; exact (if_neg c26).symm) ls (lv_sub hl [0, 1, 2, 3, 4, 5, 6, 7, 8] rfl)
                refine lv_icmp_le (tgt := 113) hx hb dX8_bestValves_97 (by decide) (fun c27 => ?_) (fun c27 => ?_)
                · exact J30 _ (by exact (if_pos c27).symm) _ (by exact (if_pos c27).symm) ls (lv_sub hl [2, 3, 4, 5, 6, 7, 8, 1, 0] rfl)
                · refine lv_bipush (v := 10) hx hb dX8_bestValves_100 (by decide) ?_
                  refine lv_iload hx hb dX8_bestValves_102 (lv_at hl 7 rfl) ?_
                  refine lv_imul hx hb dX8_bestValves_104 ?_
                  refine lv_topi (fun x28 ex28 => ?_)
                  refine lv_iload hx hb dX8_bestValves_105 (lv_at hl 8 rfl) ?_
                  refine lv_iadd hx hb dX8_bestValves_107 ?_
                  refine lv_topi (fun x29 ex29 => ?_)
                  refine lv_istore_n (lv' := [(3, .int x29), (8, .int x25), (7, .int x20), (0, .ref sf), (1, .int a0), (2, .int x1), (4, .int a15), (5, .int i3), (6, .int i11)]) hx hb dX8_bestValves_108 rfl hl (by decide) rfl (fun ls hl => ?_)
                  refine lv_iload hx hb dX8_bestValves_109 (lv_at hl 1 rfl) ?_
                  refine lv_istore (lv' := [(4, .int x25), (3, .int x29), (8, .int x25), (7, .int x20), (0, .ref sf), (1, .int a0), (2, .int x1), (5, .int i3), (6, .int i11)]) hx hb dX8_bestValves_111 hl (by decide) rfl (fun ls hl => ?_)
                  exact J30 _ (by subst ex29; subst ex28; exact (if_neg c27).symm) _ (by subst ex29; subst ex28; exact (if_neg c27).symm) ls (lv_sub hl [4, 5, 6, 1, 0, 7, 8, 3, 2] rfl)
        exact L16 (4 + 1) 0 (Nat.zero_le _) (by omega) N5 a6 a7 (zit_0 _ _).symm _ rfl ls (lv_sub hl [1, 2, 3, 4, 5, 6, 0] rfl) H locs hT hH hG hS
  exact L8 (4 + 1) 0 (Nat.zero_le _) (by omega) N (-1) 0 (zit_0 _ _).symm _ rfl ls (lv_sub hl [4, 5, 3, 2, 1, 0] rfl) H locs hT hH hG hS

