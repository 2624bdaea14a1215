theorem q_mstep {n : Nat} {t : Int} {M : zM} (hI : zInv n t M) {k : Nat} (hk : k < n) {y : Int64} (hy : y.toInt = zS (fun b => (rX0_warmth M b).toInt * (M (20 + b) 1).toInt) k) : (y + (rX0_warmth M k).toInt64 * (M (20 + k) 1).toInt64).toInt = zS (fun b => (rX0_warmth M b).toInt * (M (20 + b) 1).toInt) (k + 1) := by
  obtain ⟨-, hn, hP, -⟩ := hI
  have hs := zS_bnd (f := fun b => (rX0_warmth M b).toInt * (M (20 + b) 1).toInt) (A := 0) (B := 500000 * 99) (n := k) (fun b hb => by
    have k := hP.bk (b := b) (by omega)
    exact q_mul_b k.warm_b.1 k.warm_u (by have := k.1; omega) k.1.2)
  have h1 : 0 ≤ (rX0_warmth M k).toInt * (M (20 + k) 1).toInt ∧ (rX0_warmth M k).toInt * (M (20 + k) 1).toInt ≤ 500000 * 99 := by
    have k := hP.bk hk
    exact q_mul_b k.warm_b.1 k.warm_u (by have := k.1; omega) k.1.2
  have e1 : ((rX0_warmth M k).toInt64 * (M (20 + k) 1).toInt64).toInt = (rX0_warmth M k).toInt * (M (20 + k) 1).toInt := by
    rw [fb_mulL] <;> rw [Int32.toInt_toInt64, Int32.toInt_toInt64] <;> omega
  rw [fb_addL (by rw [e1]; omega) (by rw [e1]; omega), e1, hy, zS]
theorem q_vstep {n : Nat} {t : Int} {M : zM} (hI : zInv n t M) {k : Nat} (hk : k < n) {y : Int64} (hy : y.toInt = zS (fun b => (M (20 + b) 1).toInt) k) : (y + (M (20 + k) 1).toInt64).toInt = zS (fun b => (M (20 + b) 1).toInt) (k + 1) := by
  obtain ⟨-, hn, hP, -⟩ := hI
  have hs := zS_bnd (f := fun b => (M (20 + b) 1).toInt) (A := 0) (B := 99) (n := k) (fun b hb => by have k := (hP.bk (b := b) (by omega)).1; omega)
  have h1 := (hP.bk hk).1
  have e1 : (M (20 + k) 1).toInt64.toInt = (M (20 + k) 1).toInt := Int32.toInt_toInt64 _
  rw [fb_addL (by rw [e1]; omega) (by rw [e1]; omega), e1, hy, zS]
set_option maxHeartbeats 4000000 in
set_option maxRecDepth 100000 in
theorem m_X8_meanWarmth (l : Launch) (dC : Nat → ClassId) (dI : Nat → Nat → Nat) (ca : Nat → ClassId) (sf : Nat) (ad : Nat → Nat) (hI : z_I zd ad) (ad2 : Nat → Nat) (hI2 : z_I zd ad2) (hq : zSep sf ad ad2) (M : zM) (N : zM) (nb : Nat) (tt : Int) (hOk0 : z_Ok M) (hInv : zInv nb tt M) (h_n : 1 ≤ nb) : Met l yX8_meanWarmth wsX8_meanWarmth ({ frames := 1, cells := 0, slots := 0, locals := 21 }) (z_Pc (dC, dI) vwCl (zt ca) zw_nest [.ref sf] (fun H => zT dC dI ca sf (ad 0) (ad2 0) H ∧ zW dC dI ca ad M H ∧ zW dC dI ca ad2 N H)) (z_Qd (zMean nb M) (fun H => zT dC dI ca sf (ad 0) (ad2 0) H ∧ zW dC dI ca ad M H ∧ zW dC dI ca ad2 N H) (zA2 ad ad2)) 0 0 (zA2 ad ad2) := by
  refine Met.ofW (cc := cX8_meanWarmth) (maxL := 7) (ret := (some .double)) (by decide) rfl ?_
  intro p e s m args below meth c s₁ B9 hml hv
  obtain ⟨rfl, ⟨hT, hH, hG⟩, hK, hN⟩ := hv
  have hx := B9.exec
  have hb := B9.bytes
  have hr := B9.returns
  have hts := atoms_spec (ws := wsX8_meanWarmth) B9.pre
  have hown : s.vm.findClass RX8 = some m.cls := findClass_of_methodNamed B9.named
  have hlocks := B9.notSynchronized
  have hS : va_S (zA2 ad ad2) s.heap s.heap [] := va_S.rf
  have hOk := hOk0
  have hFx : z_Fx M M := z_Fx.rf
  have hT : zT dC dI ca sf (ad 0) (ad2 0) s.heap := hT
  have hH : zW dC dI ca ad M s.heap := hH
  have hG : zW dC dI ca ad2 N s.heap := hG
  have hinX0 : ∀ w ∈ u_ws RX0 TX0 3, w ∈ wsX8_meanWarmth := by decide +kernel
  have hinX3 : ∀ w ∈ u_ws RX3 TX3 15, w ∈ wsX8_meanWarmth := by decide +kernel
  have hinX8 : ∀ w ∈ u_ws RX8 TX8 2, w ∈ wsX8_meanWarmth := by decide +kernel
  have hl := lv_entry ([.ref sf]) (n := 7) (Nat.le_of_ble_eq_true rfl)
  rw [lg_entry_eq]
  generalize (lg_sl ([.ref sf]) ++ List.replicate (7 - (lg_sl ([.ref sf])).length) Slot.unset).toArray = ls at hl ⊢
  have hl : lv_has ls 7 [(0, .ref sf)] := hl
  refine lv_lconst (v := 0) hx hb dX8_meanWarmth_0 (by decide) ?_
  refine lv_lstore_n (lv' := [(1, .long 0), (0, .ref sf)]) hx hb dX8_meanWarmth_1 rfl hl (by decide) rfl (fun ls hl => ?_)
  refine lv_lconst (v := 0) hx hb dX8_meanWarmth_2 (by decide) ?_
  refine lv_lstore_n (lv' := [(3, .long 0), (1, .long 0), (0, .ref sf)]) hx hb dX8_meanWarmth_3 rfl hl (by decide) rfl (fun ls hl => ?_)
  refine lv_iconst (v := 0) hx hb dX8_meanWarmth_4 (by decide) ?_
  refine lv_istore (lv' := [(5, .int 0), (3, .long 0), (1, .long 0), (0, .ref sf)]) hx hb dX8_meanWarmth_5 hl (by decide) rfl (fun ls hl => ?_)
  have L6 : ∀ (d3 k1 : Nat), k1 ≤ zc10 M → zc10 M - k1 < d3 → ∀ y4 : Int64, ∀ y5 : Int64, (y4.toInt = zS (fun b => (rX0_warmth M b).toInt * (M (20 + b) 1).toInt) k1 ∧ y5.toInt = zS (fun b => (M (20 + b) 1).toInt) k1) → ∀ i2 : Int32, i2 = nI k1 → ∀ ls : Array Slot, lv_has ls 7 [(0, .ref sf), (1, .long y4), (3, .long y5), (5, .int i2)] → ∀ (H : Heap) (locs : List Loc), zT dC dI ca sf (ad 0) (ad2 0) H → zW dC dI ca ad M H → zW dC dI ca ad2 N H → va_S (zA2 ad ad2) s.heap H locs → W p l e (headSpec wsX8_meanWarmth ({ frames := 1, cells := 0, slots := 0, locals := 21 })).room s m ([.ref sf] : List Value).toArray below meth c H locs 0 0 (MQ below (z_Qd (zMean nb M) (fun H => zT dC dI ca sf (ad 0) (ad2 0) H ∧ zW dC dI ca ad M H ∧ zW dC dI ca ad2 N H) (zA2 ad ad2)) ([.ref sf] : List Value).toArray s 0 0 (zA2 ad ad2)) (F0 m 7 ls []) := by
    intro d3
    induction d3 with
    | zero => intro k1 hk1 hd; exact absurd hd (by omega)
    | succ d3 ihk1 =>
      intro k1 hk1 hd y4 y5 vk1 i2 ei2 ls hl H locs hT hH hG hS
      refine lv_iload hx hb dX8_meanWarmth_7 (lv_at hl 3 rfl) ?_
      refine lv_aload_n hx hb dX8_meanWarmth_9 rfl (lv_at hl 0 rfl) ?_
      refine z_gS (k := 0) (v := ad 0) hx hb hts hinX8 hown hK hT (by decide) rfl (hts (.fieldLink RX8 10 "Steamfield" "land" "LSteamfield$Land;") (by decide +kernel)) (fun _ h9 => h9) dX8_meanWarmth_10 ?_
      refine z_giN (D := (dC, dI)) (cl := vwCl) (C := RX3) (T := TX3) (N := 15) (ci := 3) (k := 10) hx hb hts hinX3 hown hK hH zk_0 (by decide) rfl (by decide) rfl (hN (.fieldLinkNest RX8 23 "Steamfield$Land" "blockCount" "I" "Steamfield") (by decide +kernel)) (fun _ h9 => h9) dX8_meanWarmth_13 ?_
      refine lv_topi (fun x7 ex7 => ?_)
      have hx7 : x7 = nI (zc10 M) := by rw [ex7, hFx.c10]; exact z_Ok.c10 hOk0
      refine lv_icmp_ge (tgt := 62) hx hb dX8_meanWarmth_16 (by decide) (fun c8 => ?_) (fun c8 => ?_)
      · have hkk1 : k1 = zc10 M := z_ge hx7 ei2 hk1 (Nat.lt_of_le_of_lt (z_Ok.n10 hOk0) (by decide)) c8
        rw [hkk1] at vk1
        rw [hInv.1] at vk1
        obtain ⟨vS, vV⟩ := vk1
        refine lv_lload_n hx hb dX8_meanWarmth_62 rfl (lv_at hl 2 rfl) ?_
        refine lv_lconst (v := 0) hx hb dX8_meanWarmth_63 (by decide) ?_
        refine W.lcmp hx hb dX8_meanWarmth_64 ?_
        refine lv_topi (fun x9 ex9 => ?_)
        refine lv_if_le (tgt := 76) hx hb dX8_meanWarmth_65 (by decide) (fun c10 => absurd c10 (by rw [ex9]; exact z_lg_gt (q_mean hInv h_n vS vV).2.1)) (fun c10 => ?_)
        refine lv_lload_n hx hb dX8_meanWarmth_68 rfl (lv_at hl 1 rfl) ?_
        refine lv_l2d hx hb dX8_meanWarmth_69 ?_
        refine lv_lload_n hx hb dX8_meanWarmth_70 rfl (lv_at hl 2 rfl) ?_
        refine lv_l2d hx hb dX8_meanWarmth_71 ?_
        refine lv_ddiv hx hb dX8_meanWarmth_72 (fq_mean (q_mean hInv h_n vS vV).1 (q_mean hInv h_n vS vV).2).1 ?_
        refine lv_goto (tgt := 77) hx hb dX8_meanWarmth_73 (by decide) ?_
        exact W.dret (v := (FP.ddiv (FP.l2d y4) (FP.l2d y5))) hx hb hr (fun t ht hW => ⟨⟨(FP.ddiv (FP.l2d y4) (FP.l2d y5)), (), rfl, ⟨_, _, vS, vV, rfl⟩, z_to (B := fun H => zT dC dI ca sf (ad 0) (ad2 0) H ∧ zW dC dI ca ad M H ∧ zW dC dI ca ad2 N H) ht ⟨hT, hH, hG⟩⟩, hS.F ht⟩) hS.2.2 dX8_meanWarmth_77
      · have hkk1 : k1 < zc10 M := z_lt hx7 ei2 hk1 (Nat.lt_of_le_of_lt (z_Ok.n10 hOk0) (by decide)) c8
        refine lv_aload_n hx hb dX8_meanWarmth_19 rfl (lv_at hl 0 rfl) ?_
        refine z_gS (k := 0) (v := ad 0) hx hb hts hinX8 hown hK hT (by decide) rfl (hts (.fieldLink RX8 10 "Steamfield" "land" "LSteamfield$Land;") (by decide +kernel)) (fun _ h9 => h9) dX8_meanWarmth_20 ?_
        refine z_grN (D := (dC, dI)) (cl := vwCl) (C := RX3) (T := TX3) (N := 15) (ci := 3) (k := 0) hx hb hts hinX3 hown hK hH zk_0 (by decide) rfl (by decide) rfl (zr_0 (k := 0) (by decide)) (hN (.fieldLinkNest RX8 31 "Steamfield$Land" "blocks" "[LSteamfield$Block;" "Steamfield") (by decide +kernel)) (fun _ h9 => h9) dX8_meanWarmth_23 ?_
        refine lv_iload hx hb dX8_meanWarmth_26 (lv_at hl 3 rfl) ?_
        refine z_aq (t0 := 1) (D := (dC, dI)) (cl := vwCl) (tys := zt ca) hx hb hK hH zk_1 (by decide) (by decide) rfl (show vp_in i2 8 from (zx ei2 (Nat.lt_of_lt_of_le hkk1 (z_Ok.n10 hOk0)) (by decide))) (show zr 1 (i2 : Int32).toNatClampNeg = some (20 + k1) from by rw [zx_n ei2 (Nat.lt_trans (Nat.lt_of_lt_of_le hkk1 (z_Ok.n10 hOk0)) (by decide : 8 < 2 ^ 31))]; exact zr_1 (Nat.lt_of_lt_of_le hkk1 (z_Ok.n10 hOk0))) dX8_meanWarmth_28 ?_
        refine lv_astore (lv' := [(6, .ref (ad (20 + k1))), (0, .ref sf), (1, .long y4), (3, .long y5), (5, .int i2)]) hx hb dX8_meanWarmth_29 hl (by decide) rfl (fun ls hl => ?_)
        refine lv_lload_n hx hb dX8_meanWarmth_31 rfl (lv_at hl 2 rfl) ?_
        refine lv_aload hx hb dX8_meanWarmth_32 (lv_at hl 0 rfl) ?_
        refine z_cVi (D := (dC, dI)) (cl := vwCl) (tys := zt ca) (nw := zw_nest) (C := RX0) (As := []) (rest := [.long y4]) ⟨hx, hb, hml, hown, hts⟩ (m_X0_warmth l dC dI ca ad hI M k1 (Nat.lt_of_lt_of_le hkk1 (z_Ok.n10 hOk0))) (cwV 0 hts gX8_meanWarmth_X0_warmth rfl rfl rfl (by decide +kernel) ⟨Nat.le_of_ble_eq_true rfl, Nat.le_of_ble_eq_true rfl⟩) (z_recv (ci := 0) (i := (20 + k1)) hK hH (zk_b (Nat.lt_of_lt_of_le hkk1 (z_Ok.n10 hOk0))) (by decide) rfl) hH hK hN zw_nest_ok rfl hl.1 rfl (Nat.le_of_ble_eq_true rfl) dX8_meanWarmth_34 ⟨Nat.le_refl _, Nat.le_refl _⟩ hS (fun _ h => Or.inl h) (fun H locs hB1 oq1 hz1 hS => ?_)
        have hT := zT_c hT oq1 hq.a1
        have hG := zW_c hG oq1 hq.x
        have hH := hB1
        refine lv_topi (fun x11 ex11 => ?_)
        refine lv_i2l hx hb dX8_meanWarmth_37 rfl ?_
        refine lv_topl (fun y12 ey12 => ?_)
        refine lv_aload hx hb dX8_meanWarmth_38 (lv_at hl 0 rfl) ?_
        refine z_giN (D := (dC, dI)) (cl := vwCl) (C := RX0) (T := TX0) (N := 3) (ci := 0) (k := 1) hx hb hts hinX0 hown hK hH (zk_b (Nat.lt_of_lt_of_le hkk1 (z_Ok.n10 hOk0))) (by decide) rfl (by decide) rfl (hN (.fieldLinkNest RX8 35 "Steamfield$Block" "volume" "I" "Steamfield") (by decide +kernel)) (fun _ h9 => h9) dX8_meanWarmth_40 ?_
        refine lv_topi (fun x13 ex13 => ?_)
        refine lv_i2l hx hb dX8_meanWarmth_43 rfl ?_
        refine lv_topl (fun y14 ey14 => ?_)
        refine lv_lmul hx hb dX8_meanWarmth_44 ?_
        refine lv_topl (fun y15 ey15 => ?_)
        refine lv_ladd hx hb dX8_meanWarmth_45 ?_
        refine lv_topl (fun y16 ey16 => ?_)
        refine lv_lstore_n (lv' := [(1, .long y16), (6, .ref (ad (20 + k1))), (0, .ref sf), (3, .long y5), (5, .int i2)]) hx hb dX8_meanWarmth_46 rfl hl (by decide) rfl (fun ls hl => ?_)
        refine lv_lload_n hx hb dX8_meanWarmth_47 rfl (lv_at hl 3 rfl) ?_
        refine lv_aload hx hb dX8_meanWarmth_48 (lv_at hl 1 rfl) ?_
        refine z_giN (D := (dC, dI)) (cl := vwCl) (C := RX0) (T := TX0) (N := 3) (ci := 0) (k := 1) hx hb hts hinX0 hown hK hH (zk_b (Nat.lt_of_lt_of_le hkk1 (z_Ok.n10 hOk0))) (by decide) rfl (by decide) rfl (hN (.fieldLinkNest RX8 35 "Steamfield$Block" "volume" "I" "Steamfield") (by decide +kernel)) (fun _ h9 => h9) dX8_meanWarmth_50 ?_
        refine lv_topi (fun x17 ex17 => ?_)
        refine lv_i2l hx hb dX8_meanWarmth_53 rfl ?_
        refine lv_topl (fun y18 ey18 => ?_)
        refine lv_ladd hx hb dX8_meanWarmth_54 ?_
        refine lv_topl (fun y19 ey19 => ?_)
        refine lv_lstore_n (lv' := [(3, .long y19), (1, .long y16), (6, .ref (ad (20 + k1))), (0, .ref sf), (5, .int i2)]) hx hb dX8_meanWarmth_55 rfl hl (by decide) rfl (fun ls hl => ?_)
        obtain ⟨x20, ex20⟩ : ∃ z : Int32, z = i2 + 1 := ⟨_, rfl⟩
        refine lv_iinc (v := x20) (lv' := [(5, .int x20), (3, .long y19), (1, .long y16), (6, .ref (ad (20 + k1))), (0, .ref sf)]) hx hb dX8_meanWarmth_56 hl (k := 4) rfl (by rw [ex20]; rfl) (by decide) rfl (fun ls hl => ?_)
        refine lv_goto (tgt := 7) hx hb dX8_meanWarmth_59 (by decide) ?_
        exact ihk1 (k1 + 1) hkk1 (by omega) y16 y19 (by have hkn : k1 < nb := (by rw [← hInv.1]; exact hkk1); subst ex20; subst ey19; subst ey18; subst ex17; subst ey16; subst ey15; subst ey14; subst ex13; subst ey12; subst ex11; subst ex7; exact ⟨q_mstep hInv hkn vk1.1, q_vstep hInv hkn vk1.2⟩) x20 (z_nx ei2 ex20) ls (lv_sub hl [4, 2, 1, 0] rfl) _ _ hT hH hG hS
  exact L6 (zc10 M + 1) 0 (Nat.zero_le _) (by omega) 0 0 (⟨rfl, rfl⟩) _ rfl ls (lv_sub hl [3, 2, 1, 0] rfl) s.heap [] hT hH hG hS
