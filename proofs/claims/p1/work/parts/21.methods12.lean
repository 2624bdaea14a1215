def gX8_coldIn (M : zM) (N : zM) (a0 : Int32) (a1 : Int32) : zM :=
  let x1 : Int32 := M 0 12
  let M2 : zM := fX3_copyFrom N M 
  let x3 : Int32 := M2 (60 + a0.toNatClampNeg) 0
  let N5 : zM := (zwh (fun st : zM × Int32 => decide (rX0_warmth st.1 x3.toNatClampNeg ≤ a1)) (fun st : zM × Int32 => (fX3_step st.1, st.2 + 1)) 30 (M2, 0)).1
  let x6 : Int32 := (zwh (fun st : zM × Int32 => decide (rX0_warmth st.1 x3.toNatClampNeg ≤ a1)) (fun st : zM × Int32 => (fX3_step st.1, st.2 + 1)) 30 (M2, 0)).2
  let x8 : Int32 := rX0_warmth N5 x3.toNatClampNeg
  let x10 : Int32 := if a1 < x8 then (-1) else x6
  N5
def rX8_coldIn (M : zM) (N : zM) (a0 : Int32) (a1 : Int32) : Int32 :=
  let x1 : Int32 := M 0 12
  let M2 : zM := fX3_copyFrom N M 
  let x3 : Int32 := M2 (60 + a0.toNatClampNeg) 0
  let N5 : zM := (zwh (fun st : zM × Int32 => decide (rX0_warmth st.1 x3.toNatClampNeg ≤ a1)) (fun st : zM × Int32 => (fX3_step st.1, st.2 + 1)) 30 (M2, 0)).1
  let x6 : Int32 := (zwh (fun st : zM × Int32 => decide (rX0_warmth st.1 x3.toNatClampNeg ≤ a1)) (fun st : zM × Int32 => (fX3_step st.1, st.2 + 1)) 30 (M2, 0)).2
  let x8 : Int32 := rX0_warmth N5 x3.toNatClampNeg
  let x10 : Int32 := if a1 < x8 then (-1) else x6
  x10
set_option maxHeartbeats 4000000 in
set_option maxRecDepth 100000 in
theorem m_X8_coldIn (l : Launch) (dC : Nat → ClassId) (dI : Nat → Nat → Nat) (ca : Nat → ClassId) (sf : Nat) (ad : Nat → Nat) (hI : z_I zd ad) (ad2 : Nat → Nat) (hI2 : z_I zd ad2) (hq : zSep sf ad ad2) (M : zM) (N : zM) (a0 : Int32) (a1 : Int32) (hOk0 : z_Ok M) (h_a0 : z_ix a0 (zc12 M)) (r_a1 : z_rg a1 0 400) (h_run : M 6 1 = 0 ∨ M 6 1 = 1) : Met l yX8_coldIn wsX8_coldIn ({ frames := 4, cells := 0, slots := 0, locals := 97 }) (z_Pc (dC, dI) vwCl (zt ca) zw_nest [.ref sf, .int a0, .int a1] (fun H => zT dC dI ca sf (ad 0) (ad2 0) H ∧ zW dC dI ca ad M H ∧ zW dC dI ca ad2 N H)) (z_Qi (rX8_coldIn M N a0 a1) (fun H => zT dC dI ca sf (ad 0) (ad2 0) H ∧ zW dC dI ca ad M H ∧ zW dC dI ca ad2 (gX8_coldIn M N a0 a1) H) (zA2 ad ad2)) 0 0 (zA2 ad ad2) := by
  refine Met.ofW (cc := cX8_coldIn) (maxL := 5) (ret := (some .int)) (by decide) rfl ?_
  intro p e s m args below meth c s₁ B9 hml hv
  obtain ⟨rfl, ⟨hT, hH, hG⟩, hK, hN⟩ := hv
  have hx := B9.exec
  have hb := B9.bytes
  have hr := B9.returns
  have hts := atoms_spec (ws := wsX8_coldIn) B9.pre
  have hown : s.vm.findClass RX8 = some m.cls := findClass_of_methodNamed B9.named
  have hlocks := B9.notSynchronized
  have hS : va_S (zA2 ad ad2) s.heap s.heap [] := va_S.rf
  have hOk := hOk0
  have hFx : z_Fx M M := z_Fx.rf
  have hT : zT dC dI ca sf (ad 0) (ad2 0) s.heap := hT
  have hH : zW dC dI ca ad M s.heap := hH
  have hG : zW dC dI ca ad2 N s.heap := hG
  have hinX3 : ∀ w ∈ u_ws RX3 TX3 15, w ∈ wsX8_coldIn := by decide +kernel
  have hinX7 : ∀ w ∈ u_ws RX7 TX7 9, w ∈ wsX8_coldIn := by decide +kernel
  have hinX8 : ∀ w ∈ u_ws RX8 TX8 2, w ∈ wsX8_coldIn := by decide +kernel
  have hl := lv_entry ([.ref sf, .int a0, .int a1]) (n := 5) (Nat.le_of_ble_eq_true rfl)
  rw [lg_entry_eq]
  generalize (lg_sl ([.ref sf, .int a0, .int a1]) ++ List.replicate (5 - (lg_sl ([.ref sf, .int a0, .int a1])).length) Slot.unset).toArray = ls at hl ⊢
  have hl : lv_has ls 5 [(0, .ref sf), (1, .int a0), (2, .int a1)] := hl
  refine lv_iload_n hx hb dX8_coldIn_0 rfl (lv_at hl 1 rfl) ?_
  refine lv_aload_n hx hb dX8_coldIn_1 rfl (lv_at hl 0 rfl) ?_
  refine z_gS (k := 0) (v := ad 0) hx hb hts hinX8 hown hK hT (by decide) rfl (hts (.fieldLink RX8 10 "Steamfield" "land" "LSteamfield$Land;") (by decide +kernel)) (fun _ h9 => h9) dX8_coldIn_2 ?_
  refine z_giN (D := (dC, dI)) (cl := vwCl) (C := RX3) (T := TX3) (N := 15) (ci := 3) (k := 12) hx hb hts hinX3 hown hK hH zk_0 (by decide) rfl (by decide) rfl (hN (.fieldLinkNest RX8 99 "Steamfield$Land" "wellCount" "I" "Steamfield") (by decide +kernel)) (fun _ h9 => h9) dX8_coldIn_5 ?_
  refine lv_topi (fun x1 ex1 => ?_)
  have hx1 : x1 = nI (zc12 M) := by rw [ex1, hFx.c12]; exact z_Ok.c12 hOk0
  refine z_cSv (D := (dC, dI)) (cl := vwCl) (tys := zt ca) (nw := zw_nest) (As := [.int a0, .int x1]) (rest := []) ⟨hx, hb, hml, hown, hts⟩ (m_X8_needIndex l dC dI ca (fun z : Heap => z = s.heap)  a0 x1 (z_ni_of h_a0 hx1 (Nat.lt_of_le_of_lt (z_Ok.n12 hOk0) (by decide)))) (cwS 2 hts gX8_coldIn_X8_needIndex rfl rfl rfl (by decide +kernel) ⟨Nat.le_of_ble_eq_true rfl, Nat.le_of_ble_eq_true rfl⟩) rfl hK hN zw_nest_ok rfl hl.1 rfl (Nat.le_of_ble_eq_true rfl) dX8_coldIn_8 ⟨Nat.le_refl _, Nat.le_refl _⟩ hS (fun _ h => h.elim) (fun H locs hB1 oq1 hz1 hS => ?_)
  have hT : zT dC dI ca sf (ad 0) (ad2 0) H := by rw [hB1]; exact hT
  have hH : zW dC dI ca ad M H := by rw [hB1]; exact hH
  have hG : zW dC dI ca ad2 N H := by rw [hB1]; exact hG
  refine lv_iload_n hx hb dX8_coldIn_11 rfl (lv_at hl 2 rfl) ?_
  refine lv_iconst (v := 0) hx hb dX8_coldIn_12 (by decide) ?_
  refine lv_sipush (v := 400) hx hb dX8_coldIn_13 (by decide) ?_
  refine z_cSv (D := (dC, dI)) (cl := vwCl) (tys := zt ca) (nw := zw_nest) (As := [.int a1, .int 0, .int 400]) (rest := []) ⟨hx, hb, hml, hown, hts⟩ (m_X8_needRange l dC dI ca (fun z : Heap => z = H)  a1 0 400 r_a1) (cwS 3 hts gX8_coldIn_X8_needRange rfl rfl rfl (by decide +kernel) ⟨Nat.le_of_ble_eq_true rfl, Nat.le_of_ble_eq_true rfl⟩) rfl hK hN zw_nest_ok rfl hl.1 rfl (Nat.le_of_ble_eq_true rfl) dX8_coldIn_16 ⟨Nat.le_refl _, Nat.le_refl _⟩ hS (fun _ h => h.elim) (fun H locs hB1 oq1 hz1 hS => ?_)
  have hT : zT dC dI ca sf (ad 0) (ad2 0) H := by rw [hB1]; exact hT
  have hH : zW dC dI ca ad M H := by rw [hB1]; exact hH
  have hG : zW dC dI ca ad2 N H := by rw [hB1]; exact hG
  refine lv_aload_n hx hb dX8_coldIn_19 rfl (lv_at hl 0 rfl) ?_
  refine z_gS (k := 1) (v := ad2 0) hx hb hts hinX8 hown hK hT (by decide) rfl (hts (.fieldLink RX8 16 "Steamfield" "trial" "LSteamfield$Land;") (by decide +kernel)) (fun _ h9 => h9) dX8_coldIn_20 ?_
  refine lv_aload_n hx hb dX8_coldIn_23 rfl (lv_at hl 0 rfl) ?_
  refine z_gS (k := 0) (v := ad 0) hx hb hts hinX8 hown hK hT (by decide) rfl (hts (.fieldLink RX8 10 "Steamfield" "land" "LSteamfield$Land;") (by decide +kernel)) (fun _ h9 => h9) dX8_coldIn_24 ?_
  refine z_cVv (D := (dC, dI)) (cl := vwCl) (tys := zt ca) (nw := zw_nest) (C := RX3) (As := [.ref (ad 0)]) (rest := []) ⟨hx, hb, hml, hown, hts⟩ (m_X3_copyFrom l dC dI ca ad2 hI2 ad hI hq.xs N M hOk h_run) (cwV 1 hts gX8_coldIn_X3_copyFrom rfl rfl rfl (by decide +kernel) ⟨Nat.le_of_ble_eq_true rfl, Nat.le_of_ble_eq_true rfl⟩) (z_recv (ci := 3) (i := 0) hK hG zk_0 (by decide) rfl) ⟨hG, hH⟩ hK hN zw_nest_ok rfl hl.1 rfl (Nat.le_of_ble_eq_true rfl) dX8_coldIn_27 ⟨Nat.le_refl _, Nat.le_refl _⟩ hS (fun _ h => Or.inr h) (fun H locs hB1 oq1 hz1 hS => ?_)
  have hT := zT_c hT oq1 hq.a2
  obtain ⟨hG, hH⟩ := hB1
  obtain ⟨M2, hM2⟩ : ∃ z : zM, z = fX3_copyFrom N M  := ⟨_, rfl⟩
  have hG : z_H (dC, dI) vwCl zf ca zd ad2 M2 H := by rw [hM2]; exact hG
  have hOk2 : z_Ok M2 := by rw [hM2]; exact ok_X3_copyFrom _ _ hOk
  refine lv_aload_n hx hb dX8_coldIn_30 rfl (lv_at hl 0 rfl) ?_
  refine z_gS (k := 1) (v := ad2 0) hx hb hts hinX8 hown hK hT (by decide) rfl (hts (.fieldLink RX8 16 "Steamfield" "trial" "LSteamfield$Land;") (by decide +kernel)) (fun _ h9 => h9) dX8_coldIn_31 ?_
  refine z_grN (D := (dC, dI)) (cl := vwCl) (C := RX3) (T := TX3) (N := 15) (ci := 3) (k := 0) hx hb hts hinX3 hown hK hG zk_0 (by decide) rfl (by decide) rfl (zr_0 (k := 0) (by decide)) (hN (.fieldLinkNest RX8 31 "Steamfield$Land" "blocks" "[LSteamfield$Block;" "Steamfield") (by decide +kernel)) (fun _ h9 => h9) dX8_coldIn_34 ?_
  refine lv_aload_n hx hb dX8_coldIn_37 rfl (lv_at hl 0 rfl) ?_
  refine z_gS (k := 1) (v := ad2 0) hx hb hts hinX8 hown hK hT (by decide) rfl (hts (.fieldLink RX8 16 "Steamfield" "trial" "LSteamfield$Land;") (by decide +kernel)) (fun _ h9 => h9) dX8_coldIn_38 ?_
  refine z_grN (D := (dC, dI)) (cl := vwCl) (C := RX3) (T := TX3) (N := 15) (ci := 3) (k := 2) hx hb hts hinX3 hown hK hG zk_0 (by decide) rfl (by decide) rfl (zr_0 (k := 2) (by decide)) (hN (.fieldLinkNest RX8 102 "Steamfield$Land" "wells" "[LSteamfield$Well;" "Steamfield") (by decide +kernel)) (fun _ h9 => h9) dX8_coldIn_41 ?_
  refine lv_iload_n hx hb dX8_coldIn_44 rfl (lv_at hl 1 rfl) ?_
  refine z_aq (t0 := 3) (D := (dC, dI)) (cl := vwCl) (tys := zt ca) hx hb hK hG zk_3 (by decide) (by decide) rfl (show vp_in a0 6 from (z_ix.in (z_ix.mono h_a0 (z_Ok.n12 hOk0)))) (show zr 3 (a0 : Int32).toNatClampNeg = some (60 + a0.toNatClampNeg) from zr_3 (z_ix.lt (z_ix.mono h_a0 (z_Ok.n12 hOk0)))) dX8_coldIn_45 ?_
  refine z_giN (D := (dC, dI)) (cl := vwCl) (C := RX7) (T := TX7) (N := 9) (ci := 7) (k := 0) hx hb hts hinX7 hown hK hG (zk_v (z_ix.lt (z_ix.mono h_a0 (z_Ok.n12 hOk0)))) (by decide) rfl (by decide) rfl (hN (.fieldLinkNest RX8 106 "Steamfield$Well" "block" "I" "Steamfield") (by decide +kernel)) (fun _ h9 => h9) dX8_coldIn_46 ?_
  refine lv_topi (fun x3 ex3 => ?_)
  have hx3 : z_ix x3 8 := by rw [ex3]; exact z_Ok.wblock hOk2 (z_ix.lt (z_ix.mono h_a0 (z_Ok.n12 hOk0)))
  refine z_aq (t0 := 1) (D := (dC, dI)) (cl := vwCl) (tys := zt ca) hx hb hK hG zk_1 (by decide) (by decide) rfl (show vp_in x3 8 from (z_ix.in hx3)) (show zr 1 (x3 : Int32).toNatClampNeg = some (20 + x3.toNatClampNeg) from zr_1 (z_ix.lt hx3)) dX8_coldIn_49 ?_
  refine lv_astore_n (lv' := [(3, .ref (ad2 (20 + x3.toNatClampNeg))), (0, .ref sf), (1, .int a0), (2, .int a1)]) hx hb dX8_coldIn_50 rfl hl (by decide) rfl (fun ls hl => ?_)
  refine lv_iconst (v := 0) hx hb dX8_coldIn_51 (by decide) ?_
  refine lv_istore (lv' := [(4, .int 0), (3, .ref (ad2 (20 + x3.toNatClampNeg))), (0, .ref sf), (1, .int a0), (2, .int a1)]) hx hb dX8_coldIn_52 hl (by decide) rfl (fun ls hl => ?_)
  have J0 : ∀ N5 : zM, N5 = (zwh (fun st : zM × Int32 => decide (rX0_warmth st.1 x3.toNatClampNeg ≤ a1)) (fun st : zM × Int32 => (fX3_step st.1, st.2 + 1)) 30 (M2, 0)).1 → ∀ x6 : Int32, x6 = (zwh (fun st : zM × Int32 => decide (rX0_warmth st.1 x3.toNatClampNeg ≤ a1)) (fun st : zM × Int32 => (fX3_step st.1, st.2 + 1)) 30 (M2, 0)).2 → ∀ ls : Array Slot, lv_has ls 5 [(0, .ref sf), (1, .int a0), (2, .int a1), (3, .ref (ad2 (20 + x3.toNatClampNeg))), (4, .int x6)] → ∀ (H : Heap) (locs : List Loc), zT dC dI ca sf (ad 0) (ad2 0) H → zW dC dI ca ad M H → zW dC dI ca ad2 N5 H → z_Ok N5 → va_S (zA2 ad ad2) s.heap H locs → W p l e (headSpec wsX8_coldIn ({ frames := 4, cells := 0, slots := 0, locals := 97 })).room s m ([.ref sf, .int a0, .int a1] : List Value).toArray below meth c H locs 0 0 (MQ below (z_Qi (rX8_coldIn M N a0 a1) (fun H => zT dC dI ca sf (ad 0) (ad2 0) H ∧ zW dC dI ca ad M H ∧ zW dC dI ca ad2 (gX8_coldIn M N a0 a1) H) (zA2 ad ad2)) ([.ref sf, .int a0, .int a1] : List Value).toArray s 0 0 (zA2 ad ad2)) (F0 m 82 ls []) := by
    intro N5 qN5 x6 ex6 ls hl H locs hT hH hG hOk2 hS
    refine lv_aload_n hx hb dX8_coldIn_82 rfl (lv_at hl 3 rfl) ?_
    refine z_cVi (D := (dC, dI)) (cl := vwCl) (tys := zt ca) (nw := zw_nest) (C := RX0) (As := []) (rest := []) ⟨hx, hb, hml, hown, hts⟩ (m_X0_warmth l dC dI ca ad2 hI2 N5 x3.toNatClampNeg (z_ix.lt hx3)) (cwV 0 hts gX8_coldIn_X0_warmth rfl rfl rfl (by decide +kernel) ⟨Nat.le_of_ble_eq_true rfl, Nat.le_of_ble_eq_true rfl⟩) (z_recv (ci := 0) (i := (20 + x3.toNatClampNeg)) hK hG (zk_b (z_ix.lt hx3)) (by decide) rfl) hG hK hN zw_nest_ok rfl hl.1 rfl (Nat.le_of_ble_eq_true rfl) dX8_coldIn_83 ⟨Nat.le_refl _, Nat.le_refl _⟩ hS (fun _ h => Or.inr h) (fun H locs hB1 oq1 hz1 hS => ?_)
    have hT := zT_c hT oq1 hq.a2
    have hH := zW_c hH oq1 hq.xs
    have hG := hB1
    refine lv_topi (fun x8 ex8 => ?_)
    refine lv_iload_n hx hb dX8_coldIn_86 rfl (lv_at hl 2 rfl) ?_
    have J11 : ∀ x10 : Int32, x10 = (if a1 < x8 then (-1) else x6) → ∀ ls : Array Slot, lv_has ls 5 [(0, .ref sf), (1, .int a0), (2, .int a1), (3, .ref (ad2 (20 + x3.toNatClampNeg))), (4, .int x6)] → W p l e (headSpec wsX8_coldIn ({ frames := 4, cells := 0, slots := 0, locals := 97 })).room s m ([.ref sf, .int a0, .int a1] : List Value).toArray below meth c H locs 0 0 (MQ below (z_Qi (rX8_coldIn M N a0 a1) (fun H => zT dC dI ca sf (ad 0) (ad2 0) H ∧ zW dC dI ca ad M H ∧ zW dC dI ca ad2 (gX8_coldIn M N a0 a1) H) (zA2 ad ad2)) ([.ref sf, .int a0, .int a1] : List Value).toArray s 0 0 (zA2 ad ad2)) (F0 m 96 ls [.int x10]) := by
      intro x10 ex10 ls hl
      have hF1 : zW dC dI ca ad2 (gX8_coldIn M N a0 a1) H := by
        have e9 : N5 = (gX8_coldIn M N a0 a1) := by subst ex10; subst ex8; subst ex6; subst qN5; subst ex3; subst hM2; subst ex1; rfl
        rw [← e9]; exact hG
      have hR : x10 = rX8_coldIn M N a0 a1 := by subst ex10; subst ex8; subst ex6; subst qN5; subst ex3; subst hM2; subst ex1; rfl
      exact W.iret (v := x10) hx hb hr (fun t ht hW => ⟨⟨x10, (), rfl, hR, z_to (B := fun H => zT dC dI ca sf (ad 0) (ad2 0) H ∧ zW dC dI ca ad M H ∧ zW dC dI ca ad2 (gX8_coldIn M N a0 a1) H) ht ⟨hT, hH, hF1⟩⟩, hS.F ht⟩) hS.2.2 dX8_coldIn_96
    refine lv_icmp_gt (tgt := 95) hx hb dX8_coldIn_87 (by decide) (fun c9 => ?_) (fun c9 => ?_)
    · refine lv_iconst (v := (-1)) hx hb dX8_coldIn_95 (by decide) ?_
      exact J11 _ (by exact (if_pos c9).symm) ls (lv_sub hl [0, 1, 2, 3, 4] rfl)
    · refine lv_iload hx hb dX8_coldIn_90 (lv_at hl 4 rfl) ?_
      refine lv_goto (tgt := 96) hx hb dX8_coldIn_92 (by decide) ?_
      exact J11 _ (by exact (if_neg c9).symm) ls (lv_sub hl [0, 1, 2, 3, 4] rfl)
  have L0 : ∀ (d7 k4 : Nat), k4 ≤ 30 → 30 - k4 < d7 → ∀ (N5 : zM) (x6 : Int32), zwh (fun st : zM × Int32 => decide (rX0_warmth st.1 x3.toNatClampNeg ≤ a1)) (fun st : zM × Int32 => (fX3_step st.1, st.2 + 1)) (30 - k4) (N5, x6) = (zwh (fun st : zM × Int32 => decide (rX0_warmth st.1 x3.toNatClampNeg ≤ a1)) (fun st : zM × Int32 => (fX3_step st.1, st.2 + 1)) 30 (M2, 0)) → x6 = nI k4 → ∀ ls : Array Slot, lv_has ls 5 [(0, .ref sf), (1, .int a0), (2, .int a1), (3, .ref (ad2 (20 + x3.toNatClampNeg))), (4, .int x6)] → ∀ (H : Heap) (locs : List Loc), zT dC dI ca sf (ad 0) (ad2 0) H → zW dC dI ca ad M H → zW dC dI ca ad2 N5 H → z_Ok N5 → va_S (zA2 ad ad2) s.heap H locs → W p l e (headSpec wsX8_coldIn ({ frames := 4, cells := 0, slots := 0, locals := 97 })).room s m ([.ref sf, .int a0, .int a1] : List Value).toArray below meth c H locs 0 0 (MQ below (z_Qi (rX8_coldIn M N a0 a1) (fun H => zT dC dI ca sf (ad 0) (ad2 0) H ∧ zW dC dI ca ad M H ∧ zW dC dI ca ad2 (gX8_coldIn M N a0 a1) H) (zA2 ad ad2)) ([.ref sf, .int a0, .int a1] : List Value).toArray s 0 0 (zA2 ad ad2)) (F0 m 54 ls []) := by
    intro d7
    induction d7 with
    | zero => intro k4 hk4 hd; exact absurd hd (by omega)
    | succ d7 ih =>
      intro k4 hk4 hd N5 x6 es ex6 ls hl H locs hT hH hG hOk2 hS
      refine lv_iload hx hb dX8_coldIn_54 (lv_at hl 4 rfl) ?_
      refine lv_bipush (v := 30) hx hb dX8_coldIn_56 (by decide) ?_
      refine lv_icmp_ge (tgt := 82) hx hb dX8_coldIn_58 (by decide) (fun c1 => ?_) (fun c1 => ?_)
      · have hk : k4 = 30 := z_ge rfl ex6 hk4 (by decide) c1
        have q : (N5, x6) = (zwh (fun st : zM × Int32 => decide (rX0_warmth st.1 x3.toNatClampNeg ≤ a1)) (fun st : zM × Int32 => (fX3_step st.1, st.2 + 1)) 30 (M2, 0)) := by rw [← es, hk]; exact (zwh_0 _ _ _).symm
        exact J0 N5 (by rw [← q]) x6 (by rw [← q]) ls (lv_sub hl [0, 1, 2, 3, 4] rfl) _ _ hT hH hG hOk2 hS
      · have hk : k4 < 30 := z_lt rfl ex6 hk4 (by decide) c1
        refine lv_aload_n hx hb dX8_coldIn_61 rfl (lv_at hl 3 rfl) ?_
        refine z_cVi (D := (dC, dI)) (cl := vwCl) (tys := zt ca) (nw := zw_nest) (C := RX0) (As := []) (rest := []) ⟨hx, hb, hml, hown, hts⟩ (m_X0_warmth l dC dI ca ad2 hI2 N5 x3.toNatClampNeg (z_ix.lt hx3)) (cwV 0 hts gX8_coldIn_X0_warmth rfl rfl rfl (by decide +kernel) ⟨Nat.le_of_ble_eq_true rfl, Nat.le_of_ble_eq_true rfl⟩) (z_recv (ci := 0) (i := (20 + x3.toNatClampNeg)) hK hG (zk_b (z_ix.lt hx3)) (by decide) rfl) hG hK hN zw_nest_ok rfl hl.1 rfl (Nat.le_of_ble_eq_true rfl) dX8_coldIn_62 ⟨Nat.le_refl _, Nat.le_refl _⟩ hS (fun _ h => Or.inr h) (fun H locs hB1 oq1 hz1 hS => ?_)
        have hT := zT_c hT oq1 hq.a2
        have hH := zW_c hH oq1 hq.xs
        have hG := hB1
        refine lv_topi (fun x12 ex12 => ?_)
        refine lv_iload_n hx hb dX8_coldIn_65 rfl (lv_at hl 2 rfl) ?_
        refine lv_icmp_le (tgt := 82) hx hb dX8_coldIn_66 (by decide) (fun c2 => ?_) (fun c2 => ?_)
        · have hc : (fun st : zM × Int32 => decide (rX0_warmth st.1 x3.toNatClampNeg ≤ a1)) (N5, x6) = true := by show decide (rX0_warmth N5 x3.toNatClampNeg ≤ a1) = true; rw [← ex12]; exact decide_eq_true c2
          have q : (N5, x6) = (zwh (fun st : zM × Int32 => decide (rX0_warmth st.1 x3.toNatClampNeg ≤ a1)) (fun st : zM × Int32 => (fX3_step st.1, st.2 + 1)) 30 (M2, 0)) := by rw [← es]; exact (zwh_t (fun st : zM × Int32 => decide (rX0_warmth st.1 x3.toNatClampNeg ≤ a1)) (fun st : zM × Int32 => (fX3_step st.1, st.2 + 1)) (30 - k4) (N5, x6) hc).symm
          exact J0 N5 (by rw [← q]) x6 (by rw [← q]) ls (lv_sub hl [0, 1, 2, 3, 4] rfl) _ _ hT hH hG hOk2 hS
        · have hc : (fun st : zM × Int32 => decide (rX0_warmth st.1 x3.toNatClampNeg ≤ a1)) (N5, x6) = false := by show decide (rX0_warmth N5 x3.toNatClampNeg ≤ a1) = false; rw [← ex12]; exact decide_eq_false c2
          refine lv_aload_n hx hb dX8_coldIn_69 rfl (lv_at hl 0 rfl) ?_
          refine z_gS (k := 1) (v := ad2 0) hx hb hts hinX8 hown hK hT (by decide) rfl (hts (.fieldLink RX8 16 "Steamfield" "trial" "LSteamfield$Land;") (by decide +kernel)) (fun _ h9 => h9) dX8_coldIn_70 ?_
          refine z_cVv (D := (dC, dI)) (cl := vwCl) (tys := zt ca) (nw := zw_nest) (C := RX3) (As := []) (rest := []) ⟨hx, hb, hml, hown, hts⟩ (m_X3_step l dC dI ca ad2 hI2 N5 hOk2) (cwV 0 hts gX8_coldIn_X3_step rfl rfl rfl (by decide +kernel) ⟨Nat.le_of_ble_eq_true rfl, Nat.le_of_ble_eq_true rfl⟩) (z_recv (ci := 3) (i := 0) hK hG zk_0 (by decide) rfl) hG hK hN zw_nest_ok rfl hl.1 rfl (Nat.le_of_ble_eq_true rfl) dX8_coldIn_73 ⟨Nat.le_refl _, Nat.le_refl _⟩ hS (fun _ h => Or.inr h) (fun H locs hB1 oq1 hz1 hS => ?_)
          have hT := zT_c hT oq1 hq.a2
          have hH := zW_c hH oq1 hq.xs
          obtain ⟨hG, hFc⟩ := hB1
          obtain ⟨M13, hM13⟩ : ∃ z : zM, z = fX3_step N5  := ⟨_, rfl⟩
          have hG : z_H (dC, dI) vwCl zf ca zd ad2 M13 H := by rw [hM13]; exact hG
          have hOk2 : z_Ok M13 := hOk2.fx (by rw [hM13]; exact hFc)
          obtain ⟨x14, ex14⟩ : ∃ z : Int32, z = x6 + 1 := ⟨_, rfl⟩
          refine lv_iinc (v := x14) (lv' := [(4, .int x14), (0, .ref sf), (1, .int a0), (2, .int a1), (3, .ref (ad2 (20 + x3.toNatClampNeg)))]) hx hb dX8_coldIn_76 hl (k := 4) rfl (by rw [ex14]; rfl) (by decide) rfl (fun ls hl => ?_)
          refine lv_goto (tgt := 54) hx hb dX8_coldIn_79 (by decide) ?_
          exact ih (k4 + 1) hk (by omega) M13 x14 (by rw [← es, zwh_f (fun st : zM × Int32 => decide (rX0_warmth st.1 x3.toNatClampNeg ≤ a1)) (fun st : zM × Int32 => (fX3_step st.1, st.2 + 1)) (30 - k4) (N5, x6) hc (by omega), show 30 - (k4 + 1) = 30 - k4 - 1 by omega]; subst ex14; subst hM13; subst ex12; rfl) (z_nx ex6 ex14) ls (lv_sub hl [1, 2, 3, 4, 0] rfl) _ _ hT hH hG hOk2 hS
  exact L0 31 0 (by decide) (by decide) M2 0 rfl rfl ls (lv_sub hl [2, 3, 4, 1, 0] rfl) _ _ hT hH hG hOk2 hS

