def rX3_lastShock (M : zM)  : Int32 :=
  let x1 : Int32 := M 0 14
  let x2 : Int32 := x1 &&& 3
  let x3 : Int32 := M 9 x2.toNatClampNeg
  x3
set_option maxHeartbeats 4000000 in
set_option maxRecDepth 100000 in
theorem m_X3_lastShock (l : Launch) (dC : Nat → ClassId) (dI : Nat → Nat → Nat) (ca : Nat → ClassId) (ad : Nat → Nat) (hI : z_I zd ad) (M : zM)  : Met l yX3_lastShock wsX3_lastShock ({ frames := 0, cells := 0, slots := 0, locals := 0 }) (z_Pc (dC, dI) vwCl (zt ca) zw_nest [.ref (ad 0)] (fun H => zW dC dI ca ad M H)) (z_Qi (rX3_lastShock M ) (fun H => zW dC dI ca ad M H) (z_A zd ad)) 0 0 (z_A zd ad) := by
  refine Met.ofW (cc := cX3_lastShock) (maxL := 1) (ret := (some .int)) (by decide) rfl ?_
  intro p e s m args below meth c s₁ B9 hml hv
  obtain ⟨rfl, hH, hK, hN⟩ := hv
  have hx := B9.exec
  have hb := B9.bytes
  have hr := B9.returns
  have hts := atoms_spec (ws := wsX3_lastShock) B9.pre
  have hown : s.vm.findClass RX3 = some m.cls := findClass_of_methodNamed B9.named
  have hlocks := B9.notSynchronized
  have hS : va_S (z_A zd ad) s.heap s.heap [] := va_S.rf
  have hH : zW dC dI ca ad M s.heap := hH
  have hinX3 : ∀ w ∈ u_ws RX3 TX3 15, w ∈ wsX3_lastShock := by decide +kernel
  have hl := lv_entry ([.ref (ad 0)]) (n := 1) (Nat.le_of_ble_eq_true rfl)
  rw [lg_entry_eq]
  generalize (lg_sl ([.ref (ad 0)]) ++ List.replicate (1 - (lg_sl ([.ref (ad 0)])).length) Slot.unset).toArray = ls at hl ⊢
  have hl : lv_has ls 1 [(0, .ref (ad 0))] := hl
  refine lv_aload_n hx hb dX3_lastShock_0 rfl (lv_at hl 0 rfl) ?_
  refine z_gr (D := (dC, dI)) (cl := vwCl) (C := RX3) (T := TX3) (N := 15) (ci := 3) (k := 8) hx hb hts hinX3 hown hK hH zk_0 (by decide) rfl (by decide) rfl (zr_0 (k := 8) (by decide)) (hts (.fieldLink RX3 60 "Steamfield$Land" "shocks" "[I") (by decide +kernel)) (fun _ h9 => h9) dX3_lastShock_1 ?_
  refine lv_aload_n hx hb dX3_lastShock_4 rfl (lv_at hl 0 rfl) ?_
  refine z_gi (D := (dC, dI)) (cl := vwCl) (C := RX3) (T := TX3) (N := 15) (ci := 3) (k := 14) hx hb hts hinX3 hown hK hH zk_0 (by decide) rfl (by decide) rfl (hts (.fieldLink RX3 111 "Steamfield$Land" "now" "I") (by decide +kernel)) (fun _ h9 => h9) dX3_lastShock_5 ?_
  refine lv_topi (fun x1 ex1 => ?_)
  refine lv_iconst (v := 3) hx hb dX3_lastShock_8 (by decide) ?_
  refine lv_iand hx hb dX3_lastShock_9 ?_
  refine lv_topi (fun x2 ex2 => ?_)
  have hx2 : z_ix x2 4 := by rw [ex2]; exact z_and3 _
  refine z_al (t0 := 0) (D := (dC, dI)) (cl := vwCl) (tys := zt ca) hx hb hK hH zk_9 rfl (show vp_in x2 4 from (z_ix.in hx2)) dX3_lastShock_10 ?_
  refine lv_topi (fun x3 ex3 => ?_)
  have hR : x3 = rX3_lastShock M  := by subst ex3; subst ex2; subst ex1; rfl
  exact W.iret (v := x3) hx hb hr (fun t ht hW => ⟨⟨x3, (), rfl, hR, z_to (B := fun H => zW dC dI ca ad M H) ht hH⟩, hS.F ht⟩) hS.2.2 dX3_lastShock_11

def bX3_light_4 (M : zM) (k1 : Nat) (st : Int32) : Int32 :=
  let a4 : Int32 := st
  let i2 : Int32 := nI k1
  let x7 : Int32 := M 9 k1
  let x8 : Int32 := a4 + x7
  x8
def rX3_light (M : zM)  : Int32 :=
  let a4 : Int32 := (zit (bX3_light_4 M) (4) 0)
  if 10 ≤ a4 then (let x12 : Int32 := if 25 ≤ a4 then 2 else 1; x12) else 0
set_option maxHeartbeats 4000000 in
set_option maxRecDepth 100000 in
theorem m_X3_light (l : Launch) (dC : Nat → ClassId) (dI : Nat → Nat → Nat) (ca : Nat → ClassId) (ad : Nat → Nat) (hI : z_I zd ad) (M : zM)  : Met l yX3_light wsX3_light ({ frames := 0, cells := 0, slots := 0, locals := 0 }) (z_Pc (dC, dI) vwCl (zt ca) zw_nest [.ref (ad 0)] (fun H => zW dC dI ca ad M H)) (z_Qi (rX3_light M ) (fun H => zW dC dI ca ad M H) (z_A zd ad)) 0 0 (z_A zd ad) := by
  refine Met.ofW (cc := cX3_light) (maxL := 3) (ret := (some .int)) (by decide) rfl ?_
  intro p e s m args below meth c s₁ B9 hml hv
  obtain ⟨rfl, hH, hK, hN⟩ := hv
  have hx := B9.exec
  have hb := B9.bytes
  have hr := B9.returns
  have hts := atoms_spec (ws := wsX3_light) B9.pre
  have hown : s.vm.findClass RX3 = some m.cls := findClass_of_methodNamed B9.named
  have hlocks := B9.notSynchronized
  have hS : va_S (z_A zd ad) s.heap s.heap [] := va_S.rf
  have hH : zW dC dI ca ad M s.heap := hH
  have hinX3 : ∀ w ∈ u_ws RX3 TX3 15, w ∈ wsX3_light := by decide +kernel
  have hl := lv_entry ([.ref (ad 0)]) (n := 3) (Nat.le_of_ble_eq_true rfl)
  rw [lg_entry_eq]
  generalize (lg_sl ([.ref (ad 0)]) ++ List.replicate (3 - (lg_sl ([.ref (ad 0)])).length) Slot.unset).toArray = ls at hl ⊢
  have hl : lv_has ls 3 [(0, .ref (ad 0))] := hl
  refine lv_iconst (v := 0) hx hb dX3_light_0 (by decide) ?_
  refine lv_istore_n (lv' := [(1, .int 0), (0, .ref (ad 0))]) hx hb dX3_light_1 rfl hl (by decide) rfl (fun ls hl => ?_)
  refine lv_iconst (v := 0) hx hb dX3_light_2 (by decide) ?_
  refine lv_istore_n (lv' := [(2, .int 0), (1, .int 0), (0, .ref (ad 0))]) hx hb dX3_light_3 rfl hl (by decide) rfl (fun ls hl => ?_)
  have L5 : ∀ (d3 k1 : Nat), k1 ≤ 4 → 4 - k1 < d3 → ∀ a4 : Int32, a4 = zit (bX3_light_4 M) k1 0 → ∀ i2 : Int32, i2 = nI k1 → ∀ ls : Array Slot, lv_has ls 3 [(0, .ref (ad 0)), (1, .int a4), (2, .int i2)] → W p l e (headSpec wsX3_light ({ frames := 0, cells := 0, slots := 0, locals := 0 })).room s m ([.ref (ad 0)] : List Value).toArray below meth c s.heap [] 0 0 (MQ below (z_Qi (rX3_light M ) (fun H => zW dC dI ca ad M H) (z_A zd ad)) ([.ref (ad 0)] : List Value).toArray s 0 0 (z_A zd ad)) (F0 m 4 ls []) := by
    intro d3
    induction d3 with
    | zero => intro k1 hk1 hd; exact absurd hd (by omega)
    | succ d3 ihk1 =>
      intro k1 hk1 hd a4 esk1 i2 ei2 ls hl
      refine lv_iload_n hx hb dX3_light_4 rfl (lv_at hl 2 rfl) ?_
      refine lv_iconst (v := 4) hx hb dX3_light_5 (by decide) ?_
      refine lv_icmp_ge (tgt := 24) hx hb dX3_light_6 (by decide) (fun c6 => ?_) (fun c6 => ?_)
      · have hkk1 : k1 = 4 := z_ge rfl ei2 hk1 (by decide) c6
        have qa4 : a4 = (zit (bX3_light_4 M) (4) 0) := by rw [← hkk1, ← esk1]
        refine lv_iload_n hx hb dX3_light_24 rfl (lv_at hl 1 rfl) ?_
        refine lv_bipush (v := 10) hx hb dX3_light_25 (by decide) ?_
        refine lv_icmp_ge (tgt := 32) hx hb dX3_light_27 (by decide) (fun c10 => ?_) (fun c10 => ?_)
        · refine lv_iload_n hx hb dX3_light_32 rfl (lv_at hl 1 rfl) ?_
          refine lv_bipush (v := 25) hx hb dX3_light_33 (by decide) ?_
          have J13 : ∀ x12 : Int32, x12 = (if 25 ≤ a4 then 2 else 1) → ∀ ls : Array Slot, lv_has ls 3 [(0, .ref (ad 0)), (1, .int a4), (2, .int i2)] → W p l e (headSpec wsX3_light ({ frames := 0, cells := 0, slots := 0, locals := 0 })).room s m ([.ref (ad 0)] : List Value).toArray below meth c s.heap [] 0 0 (MQ below (z_Qi (rX3_light M ) (fun H => zW dC dI ca ad M H) (z_A zd ad)) ([.ref (ad 0)] : List Value).toArray s 0 0 (z_A zd ad)) (F0 m 43 ls [.int x12]) := by
            intro x12 ex12 ls hl
            have hR : x12 = rX3_light M  := by subst ex12; subst qa4; exact ((if_pos c10).symm)
            exact W.iret (v := x12) hx hb hr (fun t ht hW => ⟨⟨x12, (), rfl, hR, z_to (B := fun H => zW dC dI ca ad M H) ht hH⟩, hS.F ht⟩) hS.2.2 dX3_light_43
          refine lv_icmp_ge (tgt := 42) hx hb dX3_light_35 (by decide) (fun c11 => ?_) (fun c11 => ?_)
          · refine lv_iconst (v := 2) hx hb dX3_light_42 (by decide) ?_
            exact J13 _ (by exact (if_pos c11).symm) ls (lv_sub hl [0, 1, 2] rfl)
          · refine lv_iconst (v := 1) hx hb dX3_light_38 (by decide) ?_
            refine lv_goto (tgt := 43) hx hb dX3_light_39 (by decide) ?_
            exact J13 _ (by exact (if_neg c11).symm) ls (lv_sub hl [0, 1, 2] rfl)
        · refine lv_iconst (v := 0) hx hb dX3_light_30 (by decide) ?_
          have hR : 0 = rX3_light M  := by subst qa4; exact ((if_neg c10).symm)
          exact W.iret (v := 0) hx hb hr (fun t ht hW => ⟨⟨0, (), rfl, hR, z_to (B := fun H => zW dC dI ca ad M H) ht hH⟩, hS.F ht⟩) hS.2.2 dX3_light_31
      · have hkk1 : k1 < 4 := z_lt rfl ei2 hk1 (by decide) c6
        refine lv_iload_n hx hb dX3_light_9 rfl (lv_at hl 1 rfl) ?_
        refine lv_aload_n hx hb dX3_light_10 rfl (lv_at hl 0 rfl) ?_
        refine z_gr (D := (dC, dI)) (cl := vwCl) (C := RX3) (T := TX3) (N := 15) (ci := 3) (k := 8) hx hb hts hinX3 hown hK hH zk_0 (by decide) rfl (by decide) rfl (zr_0 (k := 8) (by decide)) (hts (.fieldLink RX3 60 "Steamfield$Land" "shocks" "[I") (by decide +kernel)) (fun _ h9 => h9) dX3_light_11 ?_
        refine lv_iload_n hx hb dX3_light_14 rfl (lv_at hl 2 rfl) ?_
        refine z_al (t0 := 0) (D := (dC, dI)) (cl := vwCl) (tys := zt ca) hx hb hK hH zk_9 rfl (show vp_in i2 4 from (zx ei2 hkk1 (by decide))) dX3_light_15 ?_
        rw [zx_n ei2 (Nat.lt_trans hkk1 (by decide : 4 < 2 ^ 31))]
        refine lv_topi (fun x7 ex7 => ?_)
        refine lv_iadd hx hb dX3_light_16 ?_
        refine lv_topi (fun x8 ex8 => ?_)
        refine lv_istore_n (lv' := [(1, .int x8), (0, .ref (ad 0)), (2, .int i2)]) hx hb dX3_light_17 rfl hl (by decide) rfl (fun ls hl => ?_)
        obtain ⟨x9, ex9⟩ : ∃ z : Int32, z = i2 + 1 := ⟨_, rfl⟩
        refine lv_iinc (v := x9) (lv' := [(2, .int x9), (1, .int x8), (0, .ref (ad 0))]) hx hb dX3_light_18 hl (k := 2) rfl (by rw [ex9]; rfl) (by decide) rfl (fun ls hl => ?_)
        refine lv_goto (tgt := 4) hx hb dX3_light_21 (by decide) ?_
        exact ihk1 (k1 + 1) hkk1 (by omega) x8 (by rw [zit_s, ← esk1]; subst ex9; subst ex8; subst ex7; subst ei2; rfl) x9 (z_nx ei2 ex9) ls (lv_sub hl [2, 1, 0] rfl)
  exact L5 (4 + 1) 0 (Nat.zero_le _) (by omega) 0 (zit_0 _ _).symm _ rfl ls (lv_sub hl [2, 1, 0] rfl)

def fX3_drive (M : zM) (a0 : Int32) : zM :=
  let x1 : Int32 := M 6 1
  let x3 : Int32 := if x1 = 0 then 0 else (let x3 : Int32 := M 6 0; let x4 : Int32 := if x3 < a0 then x3 else a0; x4)
  let x5 : Int32 := 2 * x3
  let M6 : zM := zu M 6 2 x5
  let x7 : Int32 := M6 6 3
  let x8 : Int32 := M6 6 2
  let x9 : Int32 := x7 + x8
  let M10 : zM := zu M6 6 3 x9
  let x11 : Int32 := M10 7 3
  let x12 : Int32 := x11 + x3
  let M13 : zM := zu M10 7 3 x12
  let x14 : Int32 := M13 7 4
  let x15 : Int32 := a0 - x3
  let x16 : Int32 := x14 + x15
  let M17 : zM := zu M13 7 4 x16
  let x18 : Int32 := M17 6 0
  let x19 : Int32 := 2 * x18
  let M21 : zM := if a0 ≤ x19 then M17 else (let x21 : Int32 := M17 6 0; let M23 : zM := if x21 ≤ 0 then M17 else (let M23 : zM := zu M17 6 1 0; M23); M23)
  M21
set_option maxHeartbeats 4000000 in
set_option maxRecDepth 100000 in
theorem m_X3_drive (l : Launch) (dC : Nat → ClassId) (dI : Nat → Nat → Nat) (ca : Nat → ClassId) (ad : Nat → Nat) (hI : z_I zd ad) (M : zM) (a0 : Int32) (hOk0 : z_Ok M) : Met l yX3_drive wsX3_drive ({ frames := 1, cells := 0, slots := 0, locals := 21 }) (z_Pc (dC, dI) vwCl (zt ca) zw_nest [.ref (ad 0), .int a0] (fun H => zW dC dI ca ad M H)) (z_Qv (fun H => zW dC dI ca ad (fX3_drive M a0) H ∧ z_Fx M (fX3_drive M a0)) (z_A zd ad)) 0 0 (z_A zd ad) := by
  refine Met.ofW (cc := cX3_drive) (maxL := 3) (ret := none) (by decide) rfl ?_
  intro p e s m args below meth c s₁ B9 hml hv
  obtain ⟨rfl, hH, hK, hN⟩ := hv
  have hx := B9.exec
  have hb := B9.bytes
  have hr := B9.returns
  have hts := atoms_spec (ws := wsX3_drive) B9.pre
  have hown : s.vm.findClass RX3 = some m.cls := findClass_of_methodNamed B9.named
  have hlocks := B9.notSynchronized
  have hS : va_S (z_A zd ad) s.heap s.heap [] := va_S.rf
  have hOk := hOk0
  have hFx : z_Fx M M := z_Fx.rf
  have hH : zW dC dI ca ad M s.heap := hH
  have hinX1 : ∀ w ∈ u_ws RX1 TX1 5, w ∈ wsX3_drive := by decide +kernel
  have hinX3 : ∀ w ∈ u_ws RX3 TX3 15, w ∈ wsX3_drive := by decide +kernel
  have hinX4 : ∀ w ∈ u_ws RX4 TX4 6, w ∈ wsX3_drive := by decide +kernel
  have hl := lv_entry ([.ref (ad 0), .int a0]) (n := 3) (Nat.le_of_ble_eq_true rfl)
  rw [lg_entry_eq]
  generalize (lg_sl ([.ref (ad 0), .int a0]) ++ List.replicate (3 - (lg_sl ([.ref (ad 0), .int a0])).length) Slot.unset).toArray = ls at hl ⊢
  have hl : lv_has ls 3 [(0, .ref (ad 0)), (1, .int a0)] := hl
  refine lv_aload_n hx hb dX3_drive_0 rfl (lv_at hl 0 rfl) ?_
  refine z_gr (D := (dC, dI)) (cl := vwCl) (C := RX3) (T := TX3) (N := 15) (ci := 3) (k := 5) hx hb hts hinX3 hown hK hH zk_0 (by decide) rfl (by decide) rfl (zr_0 (k := 5) (by decide)) (hts (.fieldLink RX3 45 "Steamfield$Land" "plant" "LSteamfield$Plant;") (by decide +kernel)) (fun _ h9 => h9) dX3_drive_1 ?_
  refine z_giN (D := (dC, dI)) (cl := vwCl) (C := RX4) (T := TX4) (N := 6) (ci := 4) (k := 1) hx hb hts hinX4 hown hK hH zk_6 (by decide) rfl (by decide) rfl (hN (.fieldLinkNest RX3 239 "Steamfield$Plant" "isRunning" "Z" "Steamfield") (by decide +kernel)) (fun _ h9 => h9) dX3_drive_4 ?_
  refine lv_topi (fun x1 ex1 => ?_)
  have J4 : ∀ x3 : Int32, x3 = (if x1 = 0 then 0 else (let x3 : Int32 := M 6 0; let x4 : Int32 := if x3 < a0 then x3 else a0; x4)) → ∀ ls : Array Slot, lv_has ls 3 [(0, .ref (ad 0)), (1, .int a0)] → W p l e (headSpec wsX3_drive ({ frames := 1, cells := 0, slots := 0, locals := 21 })).room s m ([.ref (ad 0), .int a0] : List Value).toArray below meth c s.heap [] 0 0 (MQ below (z_Qv (fun H => zW dC dI ca ad (fX3_drive M a0) H ∧ z_Fx M (fX3_drive M a0)) (z_A zd ad)) ([.ref (ad 0), .int a0] : List Value).toArray s 0 0 (z_A zd ad)) (F0 m 25 ls [.int x3]) := by
    intro x3 ex3 ls hl
    refine lv_istore_n (lv' := [(2, .int x3), (0, .ref (ad 0)), (1, .int a0)]) hx hb dX3_drive_25 rfl hl (by decide) rfl (fun ls hl => ?_)
    refine lv_aload_n hx hb dX3_drive_26 rfl (lv_at hl 1 rfl) ?_
    refine z_gr (D := (dC, dI)) (cl := vwCl) (C := RX3) (T := TX3) (N := 15) (ci := 3) (k := 5) hx hb hts hinX3 hown hK hH zk_0 (by decide) rfl (by decide) rfl (zr_0 (k := 5) (by decide)) (hts (.fieldLink RX3 45 "Steamfield$Land" "plant" "LSteamfield$Plant;") (by decide +kernel)) (fun _ h9 => h9) dX3_drive_27 ?_
    refine lv_iconst (v := 2) hx hb dX3_drive_30 (by decide) ?_
    refine lv_iload_n hx hb dX3_drive_31 rfl (lv_at hl 0 rfl) ?_
    refine lv_imul hx hb dX3_drive_32 ?_
    refine lv_topi (fun x5 ex5 => ?_)
    refine zp_iN (D := (dC, dI)) (cl := vwCl) (C := RX4) (T := TX4) (N := 6) (ci := 4) (k := 2) (ty := .int) hx hb hts hinX4 tyX4 tyX4_ok nmX4 hown hK hH hI hS (fun _ h => h) zk_6 (by decide) rfl (by decide) rfl (hN (.fieldLinkNest RX3 245 "Steamfield$Plant" "power" "I" "Steamfield") (by decide +kernel)) (fun _ h9 => h9) rfl (by decide +kernel) rfl rfl dX3_drive_33 (fun H locs hH oq hS => ?_)
    obtain ⟨M6, hM6⟩ : ∃ z : zM, z = zu M 6 2 x5 := ⟨_, rfl⟩
    rw [← hM6] at hH
    have hFx : z_Fx M M6 := hFx.tr (by rw [hM6]; exact (z_Fx.u zk_6 rfl))
    have hOk : z_Ok M6 := hOk0.fx hFx
    refine lv_aload_n hx hb dX3_drive_36 rfl (lv_at hl 1 rfl) ?_
    refine z_gr (D := (dC, dI)) (cl := vwCl) (C := RX3) (T := TX3) (N := 15) (ci := 3) (k := 5) hx hb hts hinX3 hown hK hH zk_0 (by decide) rfl (by decide) rfl (zr_0 (k := 5) (by decide)) (hts (.fieldLink RX3 45 "Steamfield$Land" "plant" "LSteamfield$Plant;") (by decide +kernel)) (fun _ h9 => h9) dX3_drive_37 ?_
    refine lv_dup hx hb dX3_drive_40 rfl ?_
    refine z_giN (D := (dC, dI)) (cl := vwCl) (C := RX4) (T := TX4) (N := 6) (ci := 4) (k := 3) hx hb hts hinX4 hown hK hH zk_6 (by decide) rfl (by decide) rfl (hN (.fieldLinkNest RX3 248 "Steamfield$Plant" "powerEver" "I" "Steamfield") (by decide +kernel)) (fun _ h9 => h9) dX3_drive_41 ?_
    refine lv_topi (fun x7 ex7 => ?_)
    refine lv_aload_n hx hb dX3_drive_44 rfl (lv_at hl 1 rfl) ?_
    refine z_gr (D := (dC, dI)) (cl := vwCl) (C := RX3) (T := TX3) (N := 15) (ci := 3) (k := 5) hx hb hts hinX3 hown hK hH zk_0 (by decide) rfl (by decide) rfl (zr_0 (k := 5) (by decide)) (hts (.fieldLink RX3 45 "Steamfield$Land" "plant" "LSteamfield$Plant;") (by decide +kernel)) (fun _ h9 => h9) dX3_drive_45 ?_
    refine z_giN (D := (dC, dI)) (cl := vwCl) (C := RX4) (T := TX4) (N := 6) (ci := 4) (k := 2) hx hb hts hinX4 hown hK hH zk_6 (by decide) rfl (by decide) rfl (hN (.fieldLinkNest RX3 245 "Steamfield$Plant" "power" "I" "Steamfield") (by decide +kernel)) (fun _ h9 => h9) dX3_drive_48 ?_
    refine lv_topi (fun x8 ex8 => ?_)
    refine lv_iadd hx hb dX3_drive_51 ?_
    refine lv_topi (fun x9 ex9 => ?_)
    refine zp_iN (D := (dC, dI)) (cl := vwCl) (C := RX4) (T := TX4) (N := 6) (ci := 4) (k := 3) (ty := .int) hx hb hts hinX4 tyX4 tyX4_ok nmX4 hown hK hH hI hS (fun _ h => h) zk_6 (by decide) rfl (by decide) rfl (hN (.fieldLinkNest RX3 248 "Steamfield$Plant" "powerEver" "I" "Steamfield") (by decide +kernel)) (fun _ h9 => h9) rfl (by decide +kernel) rfl rfl dX3_drive_52 (fun H locs hH oq hS => ?_)
    obtain ⟨M10, hM10⟩ : ∃ z : zM, z = zu M6 6 3 x9 := ⟨_, rfl⟩
    rw [← hM10] at hH
    have hFx : z_Fx M M10 := hFx.tr (by rw [hM10]; exact (z_Fx.u zk_6 rfl))
    have hOk : z_Ok M10 := hOk0.fx hFx
    refine lv_aload_n hx hb dX3_drive_55 rfl (lv_at hl 1 rfl) ?_
    refine z_gr (D := (dC, dI)) (cl := vwCl) (C := RX3) (T := TX3) (N := 15) (ci := 3) (k := 6) hx hb hts hinX3 hown hK hH zk_0 (by decide) rfl (by decide) rfl (zr_0 (k := 6) (by decide)) (hts (.fieldLink RX3 52 "Steamfield$Land" "books" "LSteamfield$Books;") (by decide +kernel)) (fun _ h9 => h9) dX3_drive_56 ?_
    refine lv_dup hx hb dX3_drive_59 rfl ?_
    refine z_giN (D := (dC, dI)) (cl := vwCl) (C := RX1) (T := TX1) (N := 5) (ci := 1) (k := 3) hx hb hts hinX1 hown hK hH zk_7 (by decide) rfl (by decide) rfl (hN (.fieldLinkNest RX3 251 "Steamfield$Books" "used" "I" "Steamfield") (by decide +kernel)) (fun _ h9 => h9) dX3_drive_60 ?_
    refine lv_topi (fun x11 ex11 => ?_)
    refine lv_iload_n hx hb dX3_drive_63 rfl (lv_at hl 0 rfl) ?_
    refine lv_iadd hx hb dX3_drive_64 ?_
    refine lv_topi (fun x12 ex12 => ?_)
    refine zp_iN (D := (dC, dI)) (cl := vwCl) (C := RX1) (T := TX1) (N := 5) (ci := 1) (k := 3) (ty := .int) hx hb hts hinX1 tyX1 tyX1_ok nmX1 hown hK hH hI hS (fun _ h => h) zk_7 (by decide) rfl (by decide) rfl (hN (.fieldLinkNest RX3 251 "Steamfield$Books" "used" "I" "Steamfield") (by decide +kernel)) (fun _ h9 => h9) rfl (by decide +kernel) rfl rfl dX3_drive_65 (fun H locs hH oq hS => ?_)
    obtain ⟨M13, hM13⟩ : ∃ z : zM, z = zu M10 7 3 x12 := ⟨_, rfl⟩
    rw [← hM13] at hH
    have hFx : z_Fx M M13 := hFx.tr (by rw [hM13]; exact (z_Fx.u zk_7 rfl))
    have hOk : z_Ok M13 := hOk0.fx hFx
    refine lv_aload_n hx hb dX3_drive_68 rfl (lv_at hl 1 rfl) ?_
    refine z_gr (D := (dC, dI)) (cl := vwCl) (C := RX3) (T := TX3) (N := 15) (ci := 3) (k := 6) hx hb hts hinX3 hown hK hH zk_0 (by decide) rfl (by decide) rfl (zr_0 (k := 6) (by decide)) (hts (.fieldLink RX3 52 "Steamfield$Land" "books" "LSteamfield$Books;") (by decide +kernel)) (fun _ h9 => h9) dX3_drive_69 ?_
    refine lv_dup hx hb dX3_drive_72 rfl ?_
    refine z_giN (D := (dC, dI)) (cl := vwCl) (C := RX1) (T := TX1) (N := 5) (ci := 1) (k := 4) hx hb hts hinX1 hown hK hH zk_7 (by decide) rfl (by decide) rfl (hN (.fieldLinkNest RX3 254 "Steamfield$Books" "vented" "I" "Steamfield") (by decide +kernel)) (fun _ h9 => h9) dX3_drive_73 ?_
    refine lv_topi (fun x14 ex14 => ?_)
    refine lv_iload_n hx hb dX3_drive_76 rfl (lv_at hl 2 rfl) ?_
    refine lv_iload_n hx hb dX3_drive_77 rfl (lv_at hl 0 rfl) ?_
    refine lv_isub hx hb dX3_drive_78 ?_
    refine lv_topi (fun x15 ex15 => ?_)
    refine lv_iadd hx hb dX3_drive_79 ?_
    refine lv_topi (fun x16 ex16 => ?_)
    refine zp_iN (D := (dC, dI)) (cl := vwCl) (C := RX1) (T := TX1) (N := 5) (ci := 1) (k := 4) (ty := .int) hx hb hts hinX1 tyX1 tyX1_ok nmX1 hown hK hH hI hS (fun _ h => h) zk_7 (by decide) rfl (by decide) rfl (hN (.fieldLinkNest RX3 254 "Steamfield$Books" "vented" "I" "Steamfield") (by decide +kernel)) (fun _ h9 => h9) rfl (by decide +kernel) rfl rfl dX3_drive_80 (fun H locs hH oq hS => ?_)
    obtain ⟨M17, hM17⟩ : ∃ z : zM, z = zu M13 7 4 x16 := ⟨_, rfl⟩
    rw [← hM17] at hH
    have hFx : z_Fx M M17 := hFx.tr (by rw [hM17]; exact (z_Fx.u zk_7 rfl))
    have hOk : z_Ok M17 := hOk0.fx hFx
    refine lv_iload_n hx hb dX3_drive_83 rfl (lv_at hl 2 rfl) ?_
    refine lv_iconst (v := 2) hx hb dX3_drive_84 (by decide) ?_
    refine lv_aload_n hx hb dX3_drive_85 rfl (lv_at hl 1 rfl) ?_
    refine z_gr (D := (dC, dI)) (cl := vwCl) (C := RX3) (T := TX3) (N := 15) (ci := 3) (k := 5) hx hb hts hinX3 hown hK hH zk_0 (by decide) rfl (by decide) rfl (zr_0 (k := 5) (by decide)) (hts (.fieldLink RX3 45 "Steamfield$Land" "plant" "LSteamfield$Plant;") (by decide +kernel)) (fun _ h9 => h9) dX3_drive_86 ?_
    refine z_giN (D := (dC, dI)) (cl := vwCl) (C := RX4) (T := TX4) (N := 6) (ci := 4) (k := 0) hx hb hts hinX4 hown hK hH zk_6 (by decide) rfl (by decide) rfl (hN (.fieldLinkNest RX3 242 "Steamfield$Plant" "size" "I" "Steamfield") (by decide +kernel)) (fun _ h9 => h9) dX3_drive_89 ?_
    refine lv_topi (fun x18 ex18 => ?_)
    refine lv_imul hx hb dX3_drive_92 ?_
    refine lv_topi (fun x19 ex19 => ?_)
    have J22 : ∀ M21 : zM, M21 = (if a0 ≤ x19 then M17 else (let x21 : Int32 := M17 6 0; let M23 : zM := if x21 ≤ 0 then M17 else (let M23 : zM := zu M17 6 1 0; M23); M23)) → ∀ ls : Array Slot, lv_has ls 3 [(0, .ref (ad 0)), (1, .int a0), (2, .int x3)] → ∀ (H : Heap) (locs : List Loc), zW dC dI ca ad M21 H → z_Fx M M21 → va_S (z_A zd ad) s.heap H locs → W p l e (headSpec wsX3_drive ({ frames := 1, cells := 0, slots := 0, locals := 21 })).room s m ([.ref (ad 0), .int a0] : List Value).toArray below meth c H locs 0 0 (MQ below (z_Qv (fun H => zW dC dI ca ad (fX3_drive M a0) H ∧ z_Fx M (fX3_drive M a0)) (z_A zd ad)) ([.ref (ad 0), .int a0] : List Value).toArray s 0 0 (z_A zd ad)) (F0 m 114 ls []) := by
      intro M21 hM21 ls hl H locs hH hFx hS
      have hOk : z_Ok M21 := hOk0.fx hFx
      have hF0 : zW dC dI ca ad (fX3_drive M a0) H := by
        have e9 : M21 = (fX3_drive M a0) := by subst hM21; subst ex19; subst ex18; subst hM17; subst ex16; subst ex15; subst ex14; subst hM13; subst ex12; subst ex11; subst hM10; subst ex9; subst ex8; subst ex7; subst hM6; subst ex5; subst ex3; subst ex1; rfl
        rw [← e9]; exact hH
      have hFF : z_Fx M (fX3_drive M a0) := by
        have e9 : M21 = (fX3_drive M a0) := by subst hM21; subst ex19; subst ex18; subst hM17; subst ex16; subst ex15; subst ex14; subst hM13; subst ex12; subst ex11; subst hM10; subst ex9; subst ex8; subst ex7; subst hM6; subst ex5; subst ex3; subst ex1; rfl
        rw [← e9]; exact hFx
      exact W.vret hx hb hr (fun t ht hW => ⟨⟨(), rfl, trivial, z_to (B := fun H => zW dC dI ca ad (fX3_drive M a0) H ∧ z_Fx M (fX3_drive M a0)) ht ⟨hF0, hFF⟩⟩, hS.F ht⟩) hS.2.2 dX3_drive_114
    refine lv_icmp_le (tgt := 114) hx hb dX3_drive_93 (by decide) (fun c20 => ?_) (fun c20 => ?_)
    · exact J22 _ (by exact (if_pos c20).symm) ls (lv_sub hl [1, 2, 0] rfl) _ _ hH hFx hS
    · refine lv_aload_n hx hb dX3_drive_96 rfl (lv_at hl 1 rfl) ?_
      refine z_gr (D := (dC, dI)) (cl := vwCl) (C := RX3) (T := TX3) (N := 15) (ci := 3) (k := 5) hx hb hts hinX3 hown hK hH zk_0 (by decide) rfl (by decide) rfl (zr_0 (k := 5) (by decide)) (hts (.fieldLink RX3 45 "Steamfield$Land" "plant" "LSteamfield$Plant;") (by decide +kernel)) (fun _ h9 => h9) dX3_drive_97 ?_
      refine z_giN (D := (dC, dI)) (cl := vwCl) (C := RX4) (T := TX4) (N := 6) (ci := 4) (k := 0) hx hb hts hinX4 hown hK hH zk_6 (by decide) rfl (by decide) rfl (hN (.fieldLinkNest RX3 242 "Steamfield$Plant" "size" "I" "Steamfield") (by decide +kernel)) (fun _ h9 => h9) dX3_drive_100 ?_
      refine lv_topi (fun x21 ex21 => ?_)
      have J24 : ∀ M23 : zM, M23 = (if x21 ≤ 0 then M17 else (let M23 : zM := zu M17 6 1 0; M23)) → ∀ ls : Array Slot, lv_has ls 3 [(0, .ref (ad 0)), (1, .int a0), (2, .int x3)] → ∀ (H : Heap) (locs : List Loc), zW dC dI ca ad M23 H → z_Fx M M23 → va_S (z_A zd ad) s.heap H locs → W p l e (headSpec wsX3_drive ({ frames := 1, cells := 0, slots := 0, locals := 21 })).room s m ([.ref (ad 0), .int a0] : List Value).toArray below meth c H locs 0 0 (MQ below (z_Qv (fun H => zW dC dI ca ad (fX3_drive M a0) H ∧ z_Fx M (fX3_drive M a0)) (z_A zd ad)) ([.ref (ad 0), .int a0] : List Value).toArray s 0 0 (z_A zd ad)) (F0 m 114 ls []) := by
        intro M23 hM23 ls hl H locs hH hFx hS
        have hOk : z_Ok M23 := hOk0.fx hFx
        exact J22 _ (by subst hM23; subst ex21; exact (if_neg c20).symm) ls (lv_sub hl [0, 1, 2] rfl) _ _ hH hFx hS
      refine lv_if_le (tgt := 114) hx hb dX3_drive_103 (by decide) (fun c22 => ?_) (fun c22 => ?_)
      · exact J24 _ (by exact (if_pos c22).symm) ls (lv_sub hl [1, 2, 0] rfl) _ _ hH hFx hS
      · refine lv_aload_n hx hb dX3_drive_106 rfl (lv_at hl 1 rfl) ?_
        refine z_gr (D := (dC, dI)) (cl := vwCl) (C := RX3) (T := TX3) (N := 15) (ci := 3) (k := 5) hx hb hts hinX3 hown hK hH zk_0 (by decide) rfl (by decide) rfl (zr_0 (k := 5) (by decide)) (hts (.fieldLink RX3 45 "Steamfield$Land" "plant" "LSteamfield$Plant;") (by decide +kernel)) (fun _ h9 => h9) dX3_drive_107 ?_
        refine lv_iconst (v := 0) hx hb dX3_drive_110 (by decide) ?_
        refine zp_iN (D := (dC, dI)) (cl := vwCl) (C := RX4) (T := TX4) (N := 6) (ci := 4) (k := 1) (ty := .boolean) hx hb hts hinX4 tyX4 tyX4_ok nmX4 hown hK hH hI hS (fun _ h => h) zk_6 (by decide) rfl (by decide) rfl (hN (.fieldLinkNest RX3 239 "Steamfield$Plant" "isRunning" "Z" "Steamfield") (by decide +kernel)) (fun _ h9 => h9) rfl (by decide +kernel) (by decide) (by decide) dX3_drive_111 (fun H locs hH oq hS => ?_)
        obtain ⟨M23, hM23⟩ : ∃ z : zM, z = zu M17 6 1 0 := ⟨_, rfl⟩
        rw [← hM23] at hH
        have hFx : z_Fx M M23 := hFx.tr (by rw [hM23]; exact (z_Fx.u zk_6 rfl))
        have hOk : z_Ok M23 := hOk0.fx hFx
        exact J24 _ (by subst hM23; exact (if_neg c22).symm) ls (lv_sub hl [1, 2, 0] rfl) _ _ hH hFx hS
  refine lv_if_eq (tgt := 24) hx hb dX3_drive_7 (by decide) (fun c2 => ?_) (fun c2 => ?_)
  · refine lv_iconst (v := 0) hx hb dX3_drive_24 (by decide) ?_
    exact J4 _ (by exact (if_pos c2).symm) ls (lv_sub hl [0, 1] rfl)
  · refine lv_iload_n hx hb dX3_drive_10 rfl (lv_at hl 1 rfl) ?_
    refine lv_aload_n hx hb dX3_drive_11 rfl (lv_at hl 0 rfl) ?_
    refine z_gr (D := (dC, dI)) (cl := vwCl) (C := RX3) (T := TX3) (N := 15) (ci := 3) (k := 5) hx hb hts hinX3 hown hK hH zk_0 (by decide) rfl (by decide) rfl (zr_0 (k := 5) (by decide)) (hts (.fieldLink RX3 45 "Steamfield$Land" "plant" "LSteamfield$Plant;") (by decide +kernel)) (fun _ h9 => h9) dX3_drive_12 ?_
    refine z_giN (D := (dC, dI)) (cl := vwCl) (C := RX4) (T := TX4) (N := 6) (ci := 4) (k := 0) hx hb hts hinX4 hown hK hH zk_6 (by decide) rfl (by decide) rfl (hN (.fieldLinkNest RX3 242 "Steamfield$Plant" "size" "I" "Steamfield") (by decide +kernel)) (fun _ h9 => h9) dX3_drive_15 ?_
    refine lv_topi (fun x3 ex3 => ?_)
    refine va_mmin hx hb (hml.trans hl.1.symm) hown (hts (.methodLink RX3 216 Lib.Math.min.name) (by decide +kernel)) (hts (.static Lib.Math.min.name) (by decide +kernel)) (hts (.initialized "java/lang/Math") (by decide +kernel)) (hts (.code Lib.Math.min.name Lib.Math.min.code 2 (some .int)) (by decide +kernel)) (Nat.le_of_ble_eq_true rfl) (Nat.le_of_ble_eq_true rfl) (Nat.le_refl _) (Nat.le_refl _) dX3_drive_18 ?_
    refine lv_topi (fun x4 ex4 => ?_)
    refine lv_goto (tgt := 25) hx hb dX3_drive_21 (by decide) ?_
    exact J4 _ (by subst ex4; subst ex3; exact (if_neg c2).symm) ls (lv_sub hl [0, 1] rfl)

def fX3_warmTheTown (M : zM)  : zM :=
  let x1 : Int32 := M 5 1
  let x2 : Int32 := M 5 0
  let x3 : Int32 := 30 * x2
  let x4 : Int32 := x1 - x3
  let x5 : Int32 := if x4 < 0 then 0 else x4
  let x6 : Int32 := M 6 4
  let x7 : Int32 := if x5 < x6 then x5 else x6
  let M8 : zM := zu M 6 5 x7
  let x9 : Int32 := M8 5 1
  let x10 : Int32 := M8 6 5
  let x11 : Int32 := x9 - x10
  let M12 : zM := zu M8 5 1 x11
  M12
set_option maxHeartbeats 4000000 in
set_option maxRecDepth 100000 in
theorem m_X3_warmTheTown (l : Launch) (dC : Nat → ClassId) (dI : Nat → Nat → Nat) (ca : Nat → ClassId) (ad : Nat → Nat) (hI : z_I zd ad) (M : zM) (hOk0 : z_Ok M) : Met l yX3_warmTheTown wsX3_warmTheTown ({ frames := 1, cells := 0, slots := 0, locals := 21 }) (z_Pc (dC, dI) vwCl (zt ca) zw_nest [.ref (ad 0)] (fun H => zW dC dI ca ad M H)) (z_Qv (fun H => zW dC dI ca ad (fX3_warmTheTown M ) H ∧ z_Fx M (fX3_warmTheTown M )) (z_A zd ad)) 0 0 (z_A zd ad) := by
  refine Met.ofW (cc := cX3_warmTheTown) (maxL := 2) (ret := none) (by decide) rfl ?_
  intro p e s m args below meth c s₁ B9 hml hv
  obtain ⟨rfl, hH, hK, hN⟩ := hv
  have hx := B9.exec
  have hb := B9.bytes
  have hr := B9.returns
  have hts := atoms_spec (ws := wsX3_warmTheTown) B9.pre
  have hown : s.vm.findClass RX3 = some m.cls := findClass_of_methodNamed B9.named
  have hlocks := B9.notSynchronized
  have hS : va_S (z_A zd ad) s.heap s.heap [] := va_S.rf
  have hOk := hOk0
  have hFx : z_Fx M M := z_Fx.rf
  have hH : zW dC dI ca ad M s.heap := hH
  have hinX3 : ∀ w ∈ u_ws RX3 TX3 15, w ∈ wsX3_warmTheTown := by decide +kernel
  have hinX4 : ∀ w ∈ u_ws RX4 TX4 6, w ∈ wsX3_warmTheTown := by decide +kernel
  have hinX6 : ∀ w ∈ u_ws RX6 TX6 4, w ∈ wsX3_warmTheTown := by decide +kernel
  have hl := lv_entry ([.ref (ad 0)]) (n := 2) (Nat.le_of_ble_eq_true rfl)
  rw [lg_entry_eq]
  generalize (lg_sl ([.ref (ad 0)]) ++ List.replicate (2 - (lg_sl ([.ref (ad 0)])).length) Slot.unset).toArray = ls at hl ⊢
  have hl : lv_has ls 2 [(0, .ref (ad 0))] := hl
  refine lv_aload_n hx hb dX3_warmTheTown_0 rfl (lv_at hl 0 rfl) ?_
  refine z_gr (D := (dC, dI)) (cl := vwCl) (C := RX3) (T := TX3) (N := 15) (ci := 3) (k := 4) hx hb hts hinX3 hown hK hH zk_0 (by decide) rfl (by decide) rfl (zr_0 (k := 4) (by decide)) (hts (.fieldLink RX3 38 "Steamfield$Land" "pond" "LSteamfield$Water;") (by decide +kernel)) (fun _ h9 => h9) dX3_warmTheTown_1 ?_
  refine z_giN (D := (dC, dI)) (cl := vwCl) (C := RX6) (T := TX6) (N := 4) (ci := 6) (k := 1) hx hb hts hinX6 hown hK hH zk_5 (by decide) rfl (by decide) rfl (hN (.fieldLinkNest RX3 213 "Steamfield$Water" "heat" "I" "Steamfield") (by decide +kernel)) (fun _ h9 => h9) dX3_warmTheTown_4 ?_
  refine lv_topi (fun x1 ex1 => ?_)
  refine lv_bipush (v := 30) hx hb dX3_warmTheTown_7 (by decide) ?_
  refine lv_aload_n hx hb dX3_warmTheTown_9 rfl (lv_at hl 0 rfl) ?_
  refine z_gr (D := (dC, dI)) (cl := vwCl) (C := RX3) (T := TX3) (N := 15) (ci := 3) (k := 4) hx hb hts hinX3 hown hK hH zk_0 (by decide) rfl (by decide) rfl (zr_0 (k := 4) (by decide)) (hts (.fieldLink RX3 38 "Steamfield$Land" "pond" "LSteamfield$Water;") (by decide +kernel)) (fun _ h9 => h9) dX3_warmTheTown_10 ?_
  refine z_giN (D := (dC, dI)) (cl := vwCl) (C := RX6) (T := TX6) (N := 4) (ci := 6) (k := 0) hx hb hts hinX6 hown hK hH zk_5 (by decide) rfl (by decide) rfl (hN (.fieldLinkNest RX3 204 "Steamfield$Water" "mass" "I" "Steamfield") (by decide +kernel)) (fun _ h9 => h9) dX3_warmTheTown_13 ?_
  refine lv_topi (fun x2 ex2 => ?_)
  refine lv_imul hx hb dX3_warmTheTown_16 ?_
  refine lv_topi (fun x3 ex3 => ?_)
  refine lv_isub hx hb dX3_warmTheTown_17 ?_
  refine lv_topi (fun x4 ex4 => ?_)
  refine lv_iconst (v := 0) hx hb dX3_warmTheTown_18 (by decide) ?_
  refine va_mmax hx hb (hml.trans hl.1.symm) hown (hts (.methodLink RX3 226 Lib.Math.max.name) (by decide +kernel)) (hts (.static Lib.Math.max.name) (by decide +kernel)) (hts (.initialized "java/lang/Math") (by decide +kernel)) (hts (.code Lib.Math.max.name Lib.Math.max.code 2 (some .int)) (by decide +kernel)) (Nat.le_of_ble_eq_true rfl) (Nat.le_of_ble_eq_true rfl) (Nat.le_refl _) (Nat.le_refl _) dX3_warmTheTown_19 ?_
  refine lv_topi (fun x5 ex5 => ?_)
  refine lv_istore_n (lv' := [(1, .int x5), (0, .ref (ad 0))]) hx hb dX3_warmTheTown_22 rfl hl (by decide) rfl (fun ls hl => ?_)
  refine lv_aload_n hx hb dX3_warmTheTown_23 rfl (lv_at hl 1 rfl) ?_
  refine z_gr (D := (dC, dI)) (cl := vwCl) (C := RX3) (T := TX3) (N := 15) (ci := 3) (k := 5) hx hb hts hinX3 hown hK hH zk_0 (by decide) rfl (by decide) rfl (zr_0 (k := 5) (by decide)) (hts (.fieldLink RX3 45 "Steamfield$Land" "plant" "LSteamfield$Plant;") (by decide +kernel)) (fun _ h9 => h9) dX3_warmTheTown_24 ?_
  refine lv_aload_n hx hb dX3_warmTheTown_27 rfl (lv_at hl 1 rfl) ?_
  refine z_gr (D := (dC, dI)) (cl := vwCl) (C := RX3) (T := TX3) (N := 15) (ci := 3) (k := 5) hx hb hts hinX3 hown hK hH zk_0 (by decide) rfl (by decide) rfl (zr_0 (k := 5) (by decide)) (hts (.fieldLink RX3 45 "Steamfield$Land" "plant" "LSteamfield$Plant;") (by decide +kernel)) (fun _ h9 => h9) dX3_warmTheTown_28 ?_
  refine z_giN (D := (dC, dI)) (cl := vwCl) (C := RX4) (T := TX4) (N := 6) (ci := 4) (k := 4) hx hb hts hinX4 hown hK hH zk_6 (by decide) rfl (by decide) rfl (hN (.fieldLinkNest RX3 257 "Steamfield$Plant" "need" "I" "Steamfield") (by decide +kernel)) (fun _ h9 => h9) dX3_warmTheTown_31 ?_
  refine lv_topi (fun x6 ex6 => ?_)
  refine lv_iload_n hx hb dX3_warmTheTown_34 rfl (lv_at hl 0 rfl) ?_
  refine va_mmin hx hb (hml.trans hl.1.symm) hown (hts (.methodLink RX3 216 Lib.Math.min.name) (by decide +kernel)) (hts (.static Lib.Math.min.name) (by decide +kernel)) (hts (.initialized "java/lang/Math") (by decide +kernel)) (hts (.code Lib.Math.min.name Lib.Math.min.code 2 (some .int)) (by decide +kernel)) (Nat.le_of_ble_eq_true rfl) (Nat.le_of_ble_eq_true rfl) (Nat.le_refl _) (Nat.le_refl _) dX3_warmTheTown_35 ?_
  refine lv_topi (fun x7 ex7 => ?_)
  refine zp_iN (D := (dC, dI)) (cl := vwCl) (C := RX4) (T := TX4) (N := 6) (ci := 4) (k := 5) (ty := .int) hx hb hts hinX4 tyX4 tyX4_ok nmX4 hown hK hH hI hS (fun _ h => h) zk_6 (by decide) rfl (by decide) rfl (hN (.fieldLinkNest RX3 260 "Steamfield$Plant" "townHeat" "I" "Steamfield") (by decide +kernel)) (fun _ h9 => h9) rfl (by decide +kernel) rfl rfl dX3_warmTheTown_38 (fun H locs hH oq hS => ?_)
  obtain ⟨M8, hM8⟩ : ∃ z : zM, z = zu M 6 5 x7 := ⟨_, rfl⟩
  rw [← hM8] at hH
  have hFx : z_Fx M M8 := hFx.tr (by rw [hM8]; exact (z_Fx.u zk_6 rfl))
  have hOk : z_Ok M8 := hOk0.fx hFx
  refine lv_aload_n hx hb dX3_warmTheTown_41 rfl (lv_at hl 1 rfl) ?_
  refine z_gr (D := (dC, dI)) (cl := vwCl) (C := RX3) (T := TX3) (N := 15) (ci := 3) (k := 4) hx hb hts hinX3 hown hK hH zk_0 (by decide) rfl (by decide) rfl (zr_0 (k := 4) (by decide)) (hts (.fieldLink RX3 38 "Steamfield$Land" "pond" "LSteamfield$Water;") (by decide +kernel)) (fun _ h9 => h9) dX3_warmTheTown_42 ?_
  refine lv_dup hx hb dX3_warmTheTown_45 rfl ?_
  refine z_giN (D := (dC, dI)) (cl := vwCl) (C := RX6) (T := TX6) (N := 4) (ci := 6) (k := 1) hx hb hts hinX6 hown hK hH zk_5 (by decide) rfl (by decide) rfl (hN (.fieldLinkNest RX3 213 "Steamfield$Water" "heat" "I" "Steamfield") (by decide +kernel)) (fun _ h9 => h9) dX3_warmTheTown_46 ?_
  refine lv_topi (fun x9 ex9 => ?_)
  refine lv_aload_n hx hb dX3_warmTheTown_49 rfl (lv_at hl 1 rfl) ?_
  refine z_gr (D := (dC, dI)) (cl := vwCl) (C := RX3) (T := TX3) (N := 15) (ci := 3) (k := 5) hx hb hts hinX3 hown hK hH zk_0 (by decide) rfl (by decide) rfl (zr_0 (k := 5) (by decide)) (hts (.fieldLink RX3 45 "Steamfield$Land" "plant" "LSteamfield$Plant;") (by decide +kernel)) (fun _ h9 => h9) dX3_warmTheTown_50 ?_
  refine z_giN (D := (dC, dI)) (cl := vwCl) (C := RX4) (T := TX4) (N := 6) (ci := 4) (k := 5) hx hb hts hinX4 hown hK hH zk_6 (by decide) rfl (by decide) rfl (hN (.fieldLinkNest RX3 260 "Steamfield$Plant" "townHeat" "I" "Steamfield") (by decide +kernel)) (fun _ h9 => h9) dX3_warmTheTown_53 ?_
  refine lv_topi (fun x10 ex10 => ?_)
  refine lv_isub hx hb dX3_warmTheTown_56 ?_
  refine lv_topi (fun x11 ex11 => ?_)
  refine zp_iN (D := (dC, dI)) (cl := vwCl) (C := RX6) (T := TX6) (N := 4) (ci := 6) (k := 1) (ty := .int) hx hb hts hinX6 tyX6 tyX6_ok nmX6 hown hK hH hI hS (fun _ h => h) zk_5 (by decide) rfl (by decide) rfl (hN (.fieldLinkNest RX3 213 "Steamfield$Water" "heat" "I" "Steamfield") (by decide +kernel)) (fun _ h9 => h9) rfl (by decide +kernel) rfl rfl dX3_warmTheTown_57 (fun H locs hH oq hS => ?_)
  obtain ⟨M12, hM12⟩ : ∃ z : zM, z = zu M8 5 1 x11 := ⟨_, rfl⟩
  rw [← hM12] at hH
  have hFx : z_Fx M M12 := hFx.tr (by rw [hM12]; exact (z_Fx.u zk_5 rfl))
  have hOk : z_Ok M12 := hOk0.fx hFx
  have hF0 : zW dC dI ca ad (fX3_warmTheTown M ) H := by
    have e9 : M12 = (fX3_warmTheTown M ) := by subst hM12; subst ex11; subst ex10; subst ex9; subst hM8; subst ex7; subst ex6; subst ex5; subst ex4; subst ex3; subst ex2; subst ex1; rfl
    rw [← e9]; exact hH
  have hFF : z_Fx M (fX3_warmTheTown M ) := by
    have e9 : M12 = (fX3_warmTheTown M ) := by subst hM12; subst ex11; subst ex10; subst ex9; subst hM8; subst ex7; subst ex6; subst ex5; subst ex4; subst ex3; subst ex2; subst ex1; rfl
    rw [← e9]; exact hFx
  exact W.vret hx hb hr (fun t ht hW => ⟨⟨(), rfl, trivial, z_to (B := fun H => zW dC dI ca ad (fX3_warmTheTown M ) H ∧ z_Fx M (fX3_warmTheTown M )) ht ⟨hF0, hFF⟩⟩, hS.F ht⟩) hS.2.2 dX3_warmTheTown_60

def fX3_drain (M : zM) (a0 : Int32) : zM :=
  let M1 : zM := zu M 10 0 a0
  let x2 : Int32 := M1 5 1
  let x3 : Int32 := rX6_shareOf M1 5 x2 a0
  let M4 : zM := zu M1 10 1 x3
  let x5 : Int32 := M4 5 2
  let x6 : Int32 := rX6_shareOf M4 5 x5 a0
  let M7 : zM := zu M4 10 2 x6
  let x8 : Int32 := M7 5 3
  let x9 : Int32 := rX6_shareOf M7 5 x8 a0
  let M10 : zM := zu M7 10 3 x9
  let M11 : zM := fX6_remove M10 5 10
  M11
set_option maxHeartbeats 4000000 in
set_option maxRecDepth 100000 in
theorem m_X3_drain (l : Launch) (dC : Nat → ClassId) (dI : Nat → Nat → Nat) (ca : Nat → ClassId) (ad : Nat → Nat) (hI : z_I zd ad) (M : zM) (a0 : Int32) (hOk0 : z_Ok M) : Met l yX3_drain wsX3_drain ({ frames := 1, cells := 0, slots := 0, locals := 22 }) (z_Pc (dC, dI) vwCl (zt ca) zw_nest [.ref (ad 0), .int a0] (fun H => zW dC dI ca ad M H)) (z_Qv (fun H => zW dC dI ca ad (fX3_drain M a0) H ∧ z_Fx M (fX3_drain M a0)) (z_A zd ad)) 0 0 (z_A zd ad) := by
  refine Met.ofW (cc := cX3_drain) (maxL := 2) (ret := none) (by decide) rfl ?_
  intro p e s m args below meth c s₁ B9 hml hv
  obtain ⟨rfl, hH, hK, hN⟩ := hv
  have hx := B9.exec
  have hb := B9.bytes
  have hr := B9.returns
  have hts := atoms_spec (ws := wsX3_drain) B9.pre
  have hown : s.vm.findClass RX3 = some m.cls := findClass_of_methodNamed B9.named
  have hlocks := B9.notSynchronized
  have hS : va_S (z_A zd ad) s.heap s.heap [] := va_S.rf
  have hOk := hOk0
  have hFx : z_Fx M M := z_Fx.rf
  have hH : zW dC dI ca ad M s.heap := hH
  have hinX3 : ∀ w ∈ u_ws RX3 TX3 15, w ∈ wsX3_drain := by decide +kernel
  have hinX6 : ∀ w ∈ u_ws RX6 TX6 4, w ∈ wsX3_drain := by decide +kernel
  have hl := lv_entry ([.ref (ad 0), .int a0]) (n := 2) (Nat.le_of_ble_eq_true rfl)
  rw [lg_entry_eq]
  generalize (lg_sl ([.ref (ad 0), .int a0]) ++ List.replicate (2 - (lg_sl ([.ref (ad 0), .int a0])).length) Slot.unset).toArray = ls at hl ⊢
  have hl : lv_has ls 2 [(0, .ref (ad 0)), (1, .int a0)] := hl
  refine lv_aload_n hx hb dX3_drain_0 rfl (lv_at hl 0 rfl) ?_
  refine z_gr (D := (dC, dI)) (cl := vwCl) (C := RX3) (T := TX3) (N := 15) (ci := 3) (k := 9) hx hb hts hinX3 hown hK hH zk_0 (by decide) rfl (by decide) rfl (zr_0 (k := 9) (by decide)) (hts (.fieldLink RX3 63 "Steamfield$Land" "load" "LSteamfield$Water;") (by decide +kernel)) (fun _ h9 => h9) dX3_drain_1 ?_
  refine lv_iload_n hx hb dX3_drain_4 rfl (lv_at hl 1 rfl) ?_
  refine zp_iN (D := (dC, dI)) (cl := vwCl) (C := RX6) (T := TX6) (N := 4) (ci := 6) (k := 0) (ty := .int) hx hb hts hinX6 tyX6 tyX6_ok nmX6 hown hK hH hI hS (fun _ h => h) zk_10 (by decide) rfl (by decide) rfl (hN (.fieldLinkNest RX3 204 "Steamfield$Water" "mass" "I" "Steamfield") (by decide +kernel)) (fun _ h9 => h9) rfl (by decide +kernel) rfl rfl dX3_drain_5 (fun H locs hH oq hS => ?_)
  obtain ⟨M1, hM1⟩ : ∃ z : zM, z = zu M 10 0 a0 := ⟨_, rfl⟩
  rw [← hM1] at hH
  have hFx : z_Fx M M1 := hFx.tr (by rw [hM1]; exact (z_Fx.u zk_10 rfl))
  have hOk : z_Ok M1 := hOk0.fx hFx
  refine lv_aload_n hx hb dX3_drain_8 rfl (lv_at hl 0 rfl) ?_
  refine z_gr (D := (dC, dI)) (cl := vwCl) (C := RX3) (T := TX3) (N := 15) (ci := 3) (k := 9) hx hb hts hinX3 hown hK hH zk_0 (by decide) rfl (by decide) rfl (zr_0 (k := 9) (by decide)) (hts (.fieldLink RX3 63 "Steamfield$Land" "load" "LSteamfield$Water;") (by decide +kernel)) (fun _ h9 => h9) dX3_drain_9 ?_
  refine lv_aload_n hx hb dX3_drain_12 rfl (lv_at hl 0 rfl) ?_
  refine z_gr (D := (dC, dI)) (cl := vwCl) (C := RX3) (T := TX3) (N := 15) (ci := 3) (k := 4) hx hb hts hinX3 hown hK hH zk_0 (by decide) rfl (by decide) rfl (zr_0 (k := 4) (by decide)) (hts (.fieldLink RX3 38 "Steamfield$Land" "pond" "LSteamfield$Water;") (by decide +kernel)) (fun _ h9 => h9) dX3_drain_13 ?_
  refine lv_aload_n hx hb dX3_drain_16 rfl (lv_at hl 0 rfl) ?_
  refine z_gr (D := (dC, dI)) (cl := vwCl) (C := RX3) (T := TX3) (N := 15) (ci := 3) (k := 4) hx hb hts hinX3 hown hK hH zk_0 (by decide) rfl (by decide) rfl (zr_0 (k := 4) (by decide)) (hts (.fieldLink RX3 38 "Steamfield$Land" "pond" "LSteamfield$Water;") (by decide +kernel)) (fun _ h9 => h9) dX3_drain_17 ?_
  refine z_giN (D := (dC, dI)) (cl := vwCl) (C := RX6) (T := TX6) (N := 4) (ci := 6) (k := 1) hx hb hts hinX6 hown hK hH zk_5 (by decide) rfl (by decide) rfl (hN (.fieldLinkNest RX3 213 "Steamfield$Water" "heat" "I" "Steamfield") (by decide +kernel)) (fun _ h9 => h9) dX3_drain_20 ?_
  refine lv_topi (fun x2 ex2 => ?_)
  refine lv_iload_n hx hb dX3_drain_23 rfl (lv_at hl 1 rfl) ?_
  refine z_cVi (D := (dC, dI)) (cl := vwCl) (tys := zt ca) (nw := zw_nest) (C := RX6) (As := [.int x2, .int a0]) (rest := [.ref (ad 10)]) ⟨hx, hb, hml, hown, hts⟩ (m_X6_shareOf l dC dI ca ad hI M1 5 zk_5 x2 a0) (cwV 2 hts gX3_drain_X6_shareOf rfl rfl rfl (by decide +kernel) ⟨Nat.le_of_ble_eq_true rfl, Nat.le_of_ble_eq_true rfl⟩) (z_recv (ci := 6) (i := 5) hK hH zk_5 (by decide) rfl) hH hK hN zw_nest_ok rfl hl.1 rfl (Nat.le_of_ble_eq_true rfl) dX3_drain_24 ⟨Nat.le_refl _, Nat.le_refl _⟩ hS (fun _ h => h) (fun H locs hB1 oq1 hz1 hS => ?_)
  have hH := hB1
  refine lv_topi (fun x3 ex3 => ?_)
  refine zp_iN (D := (dC, dI)) (cl := vwCl) (C := RX6) (T := TX6) (N := 4) (ci := 6) (k := 1) (ty := .int) hx hb hts hinX6 tyX6 tyX6_ok nmX6 hown hK hH hI hS (fun _ h => h) zk_10 (by decide) rfl (by decide) rfl (hN (.fieldLinkNest RX3 213 "Steamfield$Water" "heat" "I" "Steamfield") (by decide +kernel)) (fun _ h9 => h9) rfl (by decide +kernel) rfl rfl dX3_drain_27 (fun H locs hH oq hS => ?_)
  obtain ⟨M4, hM4⟩ : ∃ z : zM, z = zu M1 10 1 x3 := ⟨_, rfl⟩
  rw [← hM4] at hH
  have hFx : z_Fx M M4 := hFx.tr (by rw [hM4]; exact (z_Fx.u zk_10 rfl))
  have hOk : z_Ok M4 := hOk0.fx hFx
  refine lv_aload_n hx hb dX3_drain_30 rfl (lv_at hl 0 rfl) ?_
  refine z_gr (D := (dC, dI)) (cl := vwCl) (C := RX3) (T := TX3) (N := 15) (ci := 3) (k := 9) hx hb hts hinX3 hown hK hH zk_0 (by decide) rfl (by decide) rfl (zr_0 (k := 9) (by decide)) (hts (.fieldLink RX3 63 "Steamfield$Land" "load" "LSteamfield$Water;") (by decide +kernel)) (fun _ h9 => h9) dX3_drain_31 ?_
  refine lv_aload_n hx hb dX3_drain_34 rfl (lv_at hl 0 rfl) ?_
  refine z_gr (D := (dC, dI)) (cl := vwCl) (C := RX3) (T := TX3) (N := 15) (ci := 3) (k := 4) hx hb hts hinX3 hown hK hH zk_0 (by decide) rfl (by decide) rfl (zr_0 (k := 4) (by decide)) (hts (.fieldLink RX3 38 "Steamfield$Land" "pond" "LSteamfield$Water;") (by decide +kernel)) (fun _ h9 => h9) dX3_drain_35 ?_
  refine lv_aload_n hx hb dX3_drain_38 rfl (lv_at hl 0 rfl) ?_
  refine z_gr (D := (dC, dI)) (cl := vwCl) (C := RX3) (T := TX3) (N := 15) (ci := 3) (k := 4) hx hb hts hinX3 hown hK hH zk_0 (by decide) rfl (by decide) rfl (zr_0 (k := 4) (by decide)) (hts (.fieldLink RX3 38 "Steamfield$Land" "pond" "LSteamfield$Water;") (by decide +kernel)) (fun _ h9 => h9) dX3_drain_39 ?_
  refine z_giN (D := (dC, dI)) (cl := vwCl) (C := RX6) (T := TX6) (N := 4) (ci := 6) (k := 2) hx hb hts hinX6 hown hK hH zk_5 (by decide) rfl (by decide) rfl (hN (.fieldLinkNest RX3 233 "Steamfield$Water" "salt" "I" "Steamfield") (by decide +kernel)) (fun _ h9 => h9) dX3_drain_42 ?_
  refine lv_topi (fun x5 ex5 => ?_)
  refine lv_iload_n hx hb dX3_drain_45 rfl (lv_at hl 1 rfl) ?_
  refine z_cVi (D := (dC, dI)) (cl := vwCl) (tys := zt ca) (nw := zw_nest) (C := RX6) (As := [.int x5, .int a0]) (rest := [.ref (ad 10)]) ⟨hx, hb, hml, hown, hts⟩ (m_X6_shareOf l dC dI ca ad hI M4 5 zk_5 x5 a0) (cwV 2 hts gX3_drain_X6_shareOf rfl rfl rfl (by decide +kernel) ⟨Nat.le_of_ble_eq_true rfl, Nat.le_of_ble_eq_true rfl⟩) (z_recv (ci := 6) (i := 5) hK hH zk_5 (by decide) rfl) hH hK hN zw_nest_ok rfl hl.1 rfl (Nat.le_of_ble_eq_true rfl) dX3_drain_46 ⟨Nat.le_refl _, Nat.le_refl _⟩ hS (fun _ h => h) (fun H locs hB1 oq1 hz1 hS => ?_)
  have hH := hB1
  refine lv_topi (fun x6 ex6 => ?_)
  refine zp_iN (D := (dC, dI)) (cl := vwCl) (C := RX6) (T := TX6) (N := 4) (ci := 6) (k := 2) (ty := .int) hx hb hts hinX6 tyX6 tyX6_ok nmX6 hown hK hH hI hS (fun _ h => h) zk_10 (by decide) rfl (by decide) rfl (hN (.fieldLinkNest RX3 233 "Steamfield$Water" "salt" "I" "Steamfield") (by decide +kernel)) (fun _ h9 => h9) rfl (by decide +kernel) rfl rfl dX3_drain_49 (fun H locs hH oq hS => ?_)
  obtain ⟨M7, hM7⟩ : ∃ z : zM, z = zu M4 10 2 x6 := ⟨_, rfl⟩
  rw [← hM7] at hH
  have hFx : z_Fx M M7 := hFx.tr (by rw [hM7]; exact (z_Fx.u zk_10 rfl))
  have hOk : z_Ok M7 := hOk0.fx hFx
  refine lv_aload_n hx hb dX3_drain_52 rfl (lv_at hl 0 rfl) ?_
  refine z_gr (D := (dC, dI)) (cl := vwCl) (C := RX3) (T := TX3) (N := 15) (ci := 3) (k := 9) hx hb hts hinX3 hown hK hH zk_0 (by decide) rfl (by decide) rfl (zr_0 (k := 9) (by decide)) (hts (.fieldLink RX3 63 "Steamfield$Land" "load" "LSteamfield$Water;") (by decide +kernel)) (fun _ h9 => h9) dX3_drain_53 ?_
  refine lv_aload_n hx hb dX3_drain_56 rfl (lv_at hl 0 rfl) ?_
  refine z_gr (D := (dC, dI)) (cl := vwCl) (C := RX3) (T := TX3) (N := 15) (ci := 3) (k := 4) hx hb hts hinX3 hown hK hH zk_0 (by decide) rfl (by decide) rfl (zr_0 (k := 4) (by decide)) (hts (.fieldLink RX3 38 "Steamfield$Land" "pond" "LSteamfield$Water;") (by decide +kernel)) (fun _ h9 => h9) dX3_drain_57 ?_
  refine lv_aload_n hx hb dX3_drain_60 rfl (lv_at hl 0 rfl) ?_
  refine z_gr (D := (dC, dI)) (cl := vwCl) (C := RX3) (T := TX3) (N := 15) (ci := 3) (k := 4) hx hb hts hinX3 hown hK hH zk_0 (by decide) rfl (by decide) rfl (zr_0 (k := 4) (by decide)) (hts (.fieldLink RX3 38 "Steamfield$Land" "pond" "LSteamfield$Water;") (by decide +kernel)) (fun _ h9 => h9) dX3_drain_61 ?_
  refine z_giN (D := (dC, dI)) (cl := vwCl) (C := RX6) (T := TX6) (N := 4) (ci := 6) (k := 3) hx hb hts hinX6 hown hK hH zk_5 (by decide) rfl (by decide) rfl (hN (.fieldLinkNest RX3 269 "Steamfield$Water" "tracer" "I" "Steamfield") (by decide +kernel)) (fun _ h9 => h9) dX3_drain_64 ?_
  refine lv_topi (fun x8 ex8 => ?_)
  refine lv_iload_n hx hb dX3_drain_67 rfl (lv_at hl 1 rfl) ?_
  refine z_cVi (D := (dC, dI)) (cl := vwCl) (tys := zt ca) (nw := zw_nest) (C := RX6) (As := [.int x8, .int a0]) (rest := [.ref (ad 10)]) ⟨hx, hb, hml, hown, hts⟩ (m_X6_shareOf l dC dI ca ad hI M7 5 zk_5 x8 a0) (cwV 2 hts gX3_drain_X6_shareOf rfl rfl rfl (by decide +kernel) ⟨Nat.le_of_ble_eq_true rfl, Nat.le_of_ble_eq_true rfl⟩) (z_recv (ci := 6) (i := 5) hK hH zk_5 (by decide) rfl) hH hK hN zw_nest_ok rfl hl.1 rfl (Nat.le_of_ble_eq_true rfl) dX3_drain_68 ⟨Nat.le_refl _, Nat.le_refl _⟩ hS (fun _ h => h) (fun H locs hB1 oq1 hz1 hS => ?_)
  have hH := hB1
  refine lv_topi (fun x9 ex9 => ?_)
  refine zp_iN (D := (dC, dI)) (cl := vwCl) (C := RX6) (T := TX6) (N := 4) (ci := 6) (k := 3) (ty := .int) hx hb hts hinX6 tyX6 tyX6_ok nmX6 hown hK hH hI hS (fun _ h => h) zk_10 (by decide) rfl (by decide) rfl (hN (.fieldLinkNest RX3 269 "Steamfield$Water" "tracer" "I" "Steamfield") (by decide +kernel)) (fun _ h9 => h9) rfl (by decide +kernel) rfl rfl dX3_drain_71 (fun H locs hH oq hS => ?_)
  obtain ⟨M10, hM10⟩ : ∃ z : zM, z = zu M7 10 3 x9 := ⟨_, rfl⟩
  rw [← hM10] at hH
  have hFx : z_Fx M M10 := hFx.tr (by rw [hM10]; exact (z_Fx.u zk_10 rfl))
  have hOk : z_Ok M10 := hOk0.fx hFx
  refine lv_aload_n hx hb dX3_drain_74 rfl (lv_at hl 0 rfl) ?_
  refine z_gr (D := (dC, dI)) (cl := vwCl) (C := RX3) (T := TX3) (N := 15) (ci := 3) (k := 4) hx hb hts hinX3 hown hK hH zk_0 (by decide) rfl (by decide) rfl (zr_0 (k := 4) (by decide)) (hts (.fieldLink RX3 38 "Steamfield$Land" "pond" "LSteamfield$Water;") (by decide +kernel)) (fun _ h9 => h9) dX3_drain_75 ?_
  refine lv_aload_n hx hb dX3_drain_78 rfl (lv_at hl 0 rfl) ?_
  refine z_gr (D := (dC, dI)) (cl := vwCl) (C := RX3) (T := TX3) (N := 15) (ci := 3) (k := 9) hx hb hts hinX3 hown hK hH zk_0 (by decide) rfl (by decide) rfl (zr_0 (k := 9) (by decide)) (hts (.fieldLink RX3 63 "Steamfield$Land" "load" "LSteamfield$Water;") (by decide +kernel)) (fun _ h9 => h9) dX3_drain_79 ?_
  refine z_cVv (D := (dC, dI)) (cl := vwCl) (tys := zt ca) (nw := zw_nest) (C := RX6) (As := [.ref (ad 10)]) (rest := []) ⟨hx, hb, hml, hown, hts⟩ (m_X6_remove l dC dI ca ad hI M10 5 zk_5 10 zk_10) (cwV 1 hts gX3_drain_X6_remove rfl rfl rfl (by decide +kernel) ⟨Nat.le_of_ble_eq_true rfl, Nat.le_of_ble_eq_true rfl⟩) (z_recv (ci := 6) (i := 5) hK hH zk_5 (by decide) rfl) hH hK hN zw_nest_ok rfl hl.1 rfl (Nat.le_of_ble_eq_true rfl) dX3_drain_82 ⟨Nat.le_refl _, Nat.le_refl _⟩ hS (fun _ h => h) (fun H locs hB1 oq1 hz1 hS => ?_)
  have hH := hB1
  obtain ⟨M11, hM11⟩ : ∃ z : zM, z = fX6_remove M10 5 10 := ⟨_, rfl⟩
  have hH : z_H (dC, dI) vwCl zf ca zd ad M11 H := by rw [hM11]; exact hH
  have hFx : z_Fx M M11 := hFx.tr (by rw [hM11]; exact (fx_X6_remove M10 5 zk_5 10 zk_10))
  have hOk : z_Ok M11 := hOk0.fx hFx
  have hF0 : zW dC dI ca ad (fX3_drain M a0) H := by
    have e9 : M11 = (fX3_drain M a0) := by subst hM11; subst hM10; subst ex9; subst ex8; subst hM7; subst ex6; subst ex5; subst hM4; subst ex3; subst ex2; subst hM1; rfl
    rw [← e9]; exact hH
  have hFF : z_Fx M (fX3_drain M a0) := by
    have e9 : M11 = (fX3_drain M a0) := by subst hM11; subst hM10; subst ex9; subst ex8; subst hM7; subst ex6; subst ex5; subst hM4; subst ex3; subst ex2; subst hM1; rfl
    rw [← e9]; exact hFx
  exact W.vret hx hb hr (fun t ht hW => ⟨⟨(), rfl, trivial, z_to (B := fun H => zW dC dI ca ad (fX3_drain M a0) H ∧ z_Fx M (fX3_drain M a0)) ht ⟨hF0, hFF⟩⟩, hS.F ht⟩) hS.2.2 dX3_drain_85

def fX3_spill (M : zM)  : zM :=
  let x1 : Int32 := M 5 0
  let x2 : Int32 := x1 - 500
  let x3 : Int32 := if x2 < 0 then 0 else x2
  let M4 : zM := fX3_drain M x3
  let M5 : zM := fX6_add M4 12 10
  M5
set_option maxHeartbeats 4000000 in
set_option maxRecDepth 100000 in
theorem m_X3_spill (l : Launch) (dC : Nat → ClassId) (dI : Nat → Nat → Nat) (ca : Nat → ClassId) (ad : Nat → Nat) (hI : z_I zd ad) (M : zM) (hOk0 : z_Ok M) : Met l yX3_spill wsX3_spill ({ frames := 2, cells := 0, slots := 0, locals := 43 }) (z_Pc (dC, dI) vwCl (zt ca) zw_nest [.ref (ad 0)] (fun H => zW dC dI ca ad M H)) (z_Qv (fun H => zW dC dI ca ad (fX3_spill M ) H ∧ z_Fx M (fX3_spill M )) (z_A zd ad)) 0 0 (z_A zd ad) := by
  refine Met.ofW (cc := cX3_spill) (maxL := 1) (ret := none) (by decide) rfl ?_
  intro p e s m args below meth c s₁ B9 hml hv
  obtain ⟨rfl, hH, hK, hN⟩ := hv
  have hx := B9.exec
  have hb := B9.bytes
  have hr := B9.returns
  have hts := atoms_spec (ws := wsX3_spill) B9.pre
  have hown : s.vm.findClass RX3 = some m.cls := findClass_of_methodNamed B9.named
  have hlocks := B9.notSynchronized
  have hS : va_S (z_A zd ad) s.heap s.heap [] := va_S.rf
  have hOk := hOk0
  have hFx : z_Fx M M := z_Fx.rf
  have hH : zW dC dI ca ad M s.heap := hH
  have hinX1 : ∀ w ∈ u_ws RX1 TX1 5, w ∈ wsX3_spill := by decide +kernel
  have hinX3 : ∀ w ∈ u_ws RX3 TX3 15, w ∈ wsX3_spill := by decide +kernel
  have hinX6 : ∀ w ∈ u_ws RX6 TX6 4, w ∈ wsX3_spill := by decide +kernel
  have hl := lv_entry ([.ref (ad 0)]) (n := 1) (Nat.le_of_ble_eq_true rfl)
  rw [lg_entry_eq]
  generalize (lg_sl ([.ref (ad 0)]) ++ List.replicate (1 - (lg_sl ([.ref (ad 0)])).length) Slot.unset).toArray = ls at hl ⊢
  have hl : lv_has ls 1 [(0, .ref (ad 0))] := hl
  refine lv_aload_n hx hb dX3_spill_0 rfl (lv_at hl 0 rfl) ?_
  refine lv_aload_n hx hb dX3_spill_1 rfl (lv_at hl 0 rfl) ?_
  refine z_gr (D := (dC, dI)) (cl := vwCl) (C := RX3) (T := TX3) (N := 15) (ci := 3) (k := 4) hx hb hts hinX3 hown hK hH zk_0 (by decide) rfl (by decide) rfl (zr_0 (k := 4) (by decide)) (hts (.fieldLink RX3 38 "Steamfield$Land" "pond" "LSteamfield$Water;") (by decide +kernel)) (fun _ h9 => h9) dX3_spill_2 ?_
  refine z_giN (D := (dC, dI)) (cl := vwCl) (C := RX6) (T := TX6) (N := 4) (ci := 6) (k := 0) hx hb hts hinX6 hown hK hH zk_5 (by decide) rfl (by decide) rfl (hN (.fieldLinkNest RX3 204 "Steamfield$Water" "mass" "I" "Steamfield") (by decide +kernel)) (fun _ h9 => h9) dX3_spill_5 ?_
  refine lv_topi (fun x1 ex1 => ?_)
  refine lv_sipush (v := 500) hx hb dX3_spill_8 (by decide) ?_
  refine lv_isub hx hb dX3_spill_11 ?_
  refine lv_topi (fun x2 ex2 => ?_)
  refine lv_iconst (v := 0) hx hb dX3_spill_12 (by decide) ?_
  refine va_mmax hx hb (hml.trans hl.1.symm) hown (hts (.methodLink RX3 226 Lib.Math.max.name) (by decide +kernel)) (hts (.static Lib.Math.max.name) (by decide +kernel)) (hts (.initialized "java/lang/Math") (by decide +kernel)) (hts (.code Lib.Math.max.name Lib.Math.max.code 2 (some .int)) (by decide +kernel)) (Nat.le_of_ble_eq_true rfl) (Nat.le_of_ble_eq_true rfl) (Nat.le_refl _) (Nat.le_refl _) dX3_spill_13 ?_
  refine lv_topi (fun x3 ex3 => ?_)
  refine z_cVv (D := (dC, dI)) (cl := vwCl) (tys := zt ca) (nw := zw_nest) (C := RX3) (As := [.int x3]) (rest := []) ⟨hx, hb, hml, hown, hts⟩ (m_X3_drain l dC dI ca ad hI M x3 hOk) (cwV 1 hts gX3_spill_X3_drain rfl rfl rfl (by decide +kernel) ⟨Nat.le_of_ble_eq_true rfl, Nat.le_of_ble_eq_true rfl⟩) (z_recv (ci := 3) (i := 0) hK hH zk_0 (by decide) rfl) hH hK hN zw_nest_ok rfl hl.1 rfl (Nat.le_of_ble_eq_true rfl) dX3_spill_16 ⟨Nat.le_refl _, Nat.le_refl _⟩ hS (fun _ h => h) (fun H locs hB1 oq1 hz1 hS => ?_)
  obtain ⟨hH, hFc⟩ := hB1
  obtain ⟨M4, hM4⟩ : ∃ z : zM, z = fX3_drain M x3 := ⟨_, rfl⟩
  have hH : z_H (dC, dI) vwCl zf ca zd ad M4 H := by rw [hM4]; exact hH
  have hFx : z_Fx M M4 := hFx.tr (by rw [hM4]; exact hFc)
  have hOk : z_Ok M4 := hOk0.fx hFx
  refine lv_aload_n hx hb dX3_spill_19 rfl (lv_at hl 0 rfl) ?_
  refine z_gr (D := (dC, dI)) (cl := vwCl) (C := RX3) (T := TX3) (N := 15) (ci := 3) (k := 6) hx hb hts hinX3 hown hK hH zk_0 (by decide) rfl (by decide) rfl (zr_0 (k := 6) (by decide)) (hts (.fieldLink RX3 52 "Steamfield$Land" "books" "LSteamfield$Books;") (by decide +kernel)) (fun _ h9 => h9) dX3_spill_20 ?_
  refine z_grN (D := (dC, dI)) (cl := vwCl) (C := RX1) (T := TX1) (N := 5) (ci := 1) (k := 1) hx hb hts hinX1 hown hK hH zk_7 (by decide) rfl (by decide) rfl (zr_7 (k := 1) (by decide)) (hN (.fieldLinkNest RX3 133 "Steamfield$Books" "spilled" "LSteamfield$Water;" "Steamfield") (by decide +kernel)) (fun _ h9 => h9) dX3_spill_23 ?_
  refine lv_aload_n hx hb dX3_spill_26 rfl (lv_at hl 0 rfl) ?_
  refine z_gr (D := (dC, dI)) (cl := vwCl) (C := RX3) (T := TX3) (N := 15) (ci := 3) (k := 9) hx hb hts hinX3 hown hK hH zk_0 (by decide) rfl (by decide) rfl (zr_0 (k := 9) (by decide)) (hts (.fieldLink RX3 63 "Steamfield$Land" "load" "LSteamfield$Water;") (by decide +kernel)) (fun _ h9 => h9) dX3_spill_27 ?_
  refine z_cVv (D := (dC, dI)) (cl := vwCl) (tys := zt ca) (nw := zw_nest) (C := RX6) (As := [.ref (ad 10)]) (rest := []) ⟨hx, hb, hml, hown, hts⟩ (m_X6_add l dC dI ca ad hI M4 12 zk_12 10 zk_10) (cwV 1 hts gX3_spill_X6_add rfl rfl rfl (by decide +kernel) ⟨Nat.le_of_ble_eq_true rfl, Nat.le_of_ble_eq_true rfl⟩) (z_recv (ci := 6) (i := 12) hK hH zk_12 (by decide) rfl) hH hK hN zw_nest_ok rfl hl.1 rfl (Nat.le_of_ble_eq_true rfl) dX3_spill_30 ⟨Nat.le_refl _, Nat.le_refl _⟩ hS (fun _ h => h) (fun H locs hB1 oq1 hz1 hS => ?_)
  have hH := hB1
  obtain ⟨M5, hM5⟩ : ∃ z : zM, z = fX6_add M4 12 10 := ⟨_, rfl⟩
  have hH : z_H (dC, dI) vwCl zf ca zd ad M5 H := by rw [hM5]; exact hH
  have hFx : z_Fx M M5 := hFx.tr (by rw [hM5]; exact (fx_X6_add M4 12 zk_12 10 zk_10))
  have hOk : z_Ok M5 := hOk0.fx hFx
  have hF0 : zW dC dI ca ad (fX3_spill M ) H := by
    have e9 : M5 = (fX3_spill M ) := by subst hM5; subst hM4; subst ex3; subst ex2; subst ex1; rfl
    rw [← e9]; exact hH
  have hFF : z_Fx M (fX3_spill M ) := by
    have e9 : M5 = (fX3_spill M ) := by subst hM5; subst hM4; subst ex3; subst ex2; subst ex1; rfl
    rw [← e9]; exact hFx
  exact W.vret hx hb hr (fun t ht hW => ⟨⟨(), rfl, trivial, z_to (B := fun H => zW dC dI ca ad (fX3_spill M ) H ∧ z_Fx M (fX3_spill M )) ht ⟨hF0, hFF⟩⟩, hS.F ht⟩) hS.2.2 dX3_spill_33

def fX3_flowThrough (M : zM) (f : Nat) : zM :=
  let x1 : Int32 := M (40 + f) 0
  let x2 : Int32 := M (40 + f) 1
  let x3 : Int32 := rX0_pressure M x1.toNatClampNeg
  let x4 : Int32 := rX0_pressure M x2.toNatClampNeg
  let x5 : Int32 := x3 - x4
  let u7 : Nat := if x5 < 0 then x2.toNatClampNeg else x1.toNatClampNeg
  let u10 : Nat := if x5 < 0 then x1.toNatClampNeg else x2.toNatClampNeg
  let x12 : Int32 := if 0 ≤ x5 then x5 else 0 - x5
  let x13 : Int32 := M (40 + f) 2
  let x14 : Int32 := x12 * x13
  let x15 : Int32 := x14 / 20
  let M16 : zM := fX0_take M u7 x15 10
  let M17 : zM := fX6_add M16 (30 + u10) 10
  let x19 : Int32 := if x5 < 0 then (let x19 : Int32 := M17 10 0; let x20 : Int32 := 0 - x19; x20) else (let x19 : Int32 := M17 10 0; x19)
  let M21 : zM := zu M17 (40 + f) 3 x19
  let x22 : Int32 := rX0_warmth M21 x1.toNatClampNeg
  let x23 : Int32 := rX0_warmth M21 x2.toNatClampNeg
  let x24 : Int32 := x22 - x23
  let x25 : Int32 := M21 (40 + f) 2
  let x26 : Int32 := x24 * x25
  let x27 : Int32 := M21 (30 + x1.toNatClampNeg) 1
  let x28 : Int32 := x27 - x26
  let M29 : zM := zu M21 (30 + x1.toNatClampNeg) 1 x28
  let x30 : Int32 := M29 (30 + x2.toNatClampNeg) 1
  let x31 : Int32 := x30 + x26
  let M32 : zM := zu M29 (30 + x2.toNatClampNeg) 1 x31
  let M34 : zM := if x12 < 50 then M32 else (let x34 : Int32 := M32 (40 + f) 2; let x35 : Int32 := x34 + 1; let x36 : Int32 := if 9 < x35 then 9 else x35; let M37 : zM := zu M32 (40 + f) 2 x36; M37)
  M34
set_option maxHeartbeats 4000000 in
set_option maxRecDepth 100000 in
theorem m_X3_flowThrough (l : Launch) (dC : Nat → ClassId) (dI : Nat → Nat → Nat) (ca : Nat → ClassId) (ad : Nat → Nat) (hI : z_I zd ad) (M : zM) (f : Nat) (h_f : f < 12) (hOk0 : z_Ok M) : Met l yX3_flowThrough wsX3_flowThrough ({ frames := 2, cells := 0, slots := 0, locals := 45 }) (z_Pc (dC, dI) vwCl (zt ca) zw_nest [.ref (ad 0), .ref (ad (40 + f))] (fun H => zW dC dI ca ad M H)) (z_Qv (fun H => zW dC dI ca ad (fX3_flowThrough M f) H ∧ z_Fx M (fX3_flowThrough M f)) (z_A zd ad)) 0 0 (z_A zd ad) := by
  refine Met.ofW (cc := cX3_flowThrough) (maxL := 9) (ret := none) (by decide) rfl ?_
  intro p e s m args below meth c s₁ B9 hml hv
  obtain ⟨rfl, hH, hK, hN⟩ := hv
  have hx := B9.exec
  have hb := B9.bytes
  have hr := B9.returns
  have hts := atoms_spec (ws := wsX3_flowThrough) B9.pre
  have hown : s.vm.findClass RX3 = some m.cls := findClass_of_methodNamed B9.named
  have hlocks := B9.notSynchronized
  have hS : va_S (z_A zd ad) s.heap s.heap [] := va_S.rf
  have hOk := hOk0
  have hFx : z_Fx M M := z_Fx.rf
  have hH : zW dC dI ca ad M s.heap := hH
  have hinX0 : ∀ w ∈ u_ws RX0 TX0 3, w ∈ wsX3_flowThrough := by decide +kernel
  have hinX2 : ∀ w ∈ u_ws RX2 TX2 4, w ∈ wsX3_flowThrough := by decide +kernel
  have hinX3 : ∀ w ∈ u_ws RX3 TX3 15, w ∈ wsX3_flowThrough := by decide +kernel
  have hinX6 : ∀ w ∈ u_ws RX6 TX6 4, w ∈ wsX3_flowThrough := by decide +kernel
  have hl := lv_entry ([.ref (ad 0), .ref (ad (40 + f))]) (n := 9) (Nat.le_of_ble_eq_true rfl)
  rw [lg_entry_eq]
  generalize (lg_sl ([.ref (ad 0), .ref (ad (40 + f))]) ++ List.replicate (9 - (lg_sl ([.ref (ad 0), .ref (ad (40 + f))])).length) Slot.unset).toArray = ls at hl ⊢
  have hl : lv_has ls 9 [(0, .ref (ad 0)), (1, .ref (ad (40 + f)))] := hl
  refine lv_aload_n hx hb dX3_flowThrough_0 rfl (lv_at hl 0 rfl) ?_
  refine z_gr (D := (dC, dI)) (cl := vwCl) (C := RX3) (T := TX3) (N := 15) (ci := 3) (k := 0) hx hb hts hinX3 hown hK hH zk_0 (by decide) rfl (by decide) rfl (zr_0 (k := 0) (by decide)) (hts (.fieldLink RX3 11 "Steamfield$Land" "blocks" "[LSteamfield$Block;") (by decide +kernel)) (fun _ h9 => h9) dX3_flowThrough_1 ?_
  refine lv_aload_n hx hb dX3_flowThrough_4 rfl (lv_at hl 1 rfl) ?_
  refine z_giN (D := (dC, dI)) (cl := vwCl) (C := RX2) (T := TX2) (N := 4) (ci := 2) (k := 0) hx hb hts hinX2 hown hK hH (zk_f h_f) (by decide) rfl (by decide) rfl (hN (.fieldLinkNest RX3 180 "Steamfield$Face" "one" "I" "Steamfield") (by decide +kernel)) (fun _ h9 => h9) dX3_flowThrough_5 ?_
  refine lv_topi (fun x1 ex1 => ?_)
  have hx1 : z_ix x1 8 := by rw [ex1]; exact z_Ok.one hOk h_f
  refine z_aq (t0 := 1) (D := (dC, dI)) (cl := vwCl) (tys := zt ca) hx hb hK hH zk_1 (by decide) (by decide) rfl (show vp_in x1 8 from (z_ix.in hx1)) (show zr 1 (x1 : Int32).toNatClampNeg = some (20 + x1.toNatClampNeg) from zr_1 (z_ix.lt hx1)) dX3_flowThrough_8 ?_
  refine lv_astore_n (lv' := [(2, .ref (ad (20 + x1.toNatClampNeg))), (0, .ref (ad 0)), (1, .ref (ad (40 + f)))]) hx hb dX3_flowThrough_9 rfl hl (by decide) rfl (fun ls hl => ?_)
  refine lv_aload_n hx hb dX3_flowThrough_10 rfl (lv_at hl 1 rfl) ?_
  refine z_gr (D := (dC, dI)) (cl := vwCl) (C := RX3) (T := TX3) (N := 15) (ci := 3) (k := 0) hx hb hts hinX3 hown hK hH zk_0 (by decide) rfl (by decide) rfl (zr_0 (k := 0) (by decide)) (hts (.fieldLink RX3 11 "Steamfield$Land" "blocks" "[LSteamfield$Block;") (by decide +kernel)) (fun _ h9 => h9) dX3_flowThrough_11 ?_
  refine lv_aload_n hx hb dX3_flowThrough_14 rfl (lv_at hl 2 rfl) ?_
  refine z_giN (D := (dC, dI)) (cl := vwCl) (C := RX2) (T := TX2) (N := 4) (ci := 2) (k := 1) hx hb hts hinX2 hown hK hH (zk_f h_f) (by decide) rfl (by decide) rfl (hN (.fieldLinkNest RX3 183 "Steamfield$Face" "other" "I" "Steamfield") (by decide +kernel)) (fun _ h9 => h9) dX3_flowThrough_15 ?_
  refine lv_topi (fun x2 ex2 => ?_)
  have hx2 : z_ix x2 8 := by rw [ex2]; exact z_Ok.other hOk h_f
  refine z_aq (t0 := 1) (D := (dC, dI)) (cl := vwCl) (tys := zt ca) hx hb hK hH zk_1 (by decide) (by decide) rfl (show vp_in x2 8 from (z_ix.in hx2)) (show zr 1 (x2 : Int32).toNatClampNeg = some (20 + x2.toNatClampNeg) from zr_1 (z_ix.lt hx2)) dX3_flowThrough_18 ?_
  refine lv_astore_n (lv' := [(3, .ref (ad (20 + x2.toNatClampNeg))), (2, .ref (ad (20 + x1.toNatClampNeg))), (0, .ref (ad 0)), (1, .ref (ad (40 + f)))]) hx hb dX3_flowThrough_19 rfl hl (by decide) rfl (fun ls hl => ?_)
  refine lv_aload_n hx hb dX3_flowThrough_20 rfl (lv_at hl 1 rfl) ?_
  refine z_cVi (D := (dC, dI)) (cl := vwCl) (tys := zt ca) (nw := zw_nest) (C := RX0) (As := []) (rest := []) ⟨hx, hb, hml, hown, hts⟩ (m_X0_pressure l dC dI ca ad hI M x1.toNatClampNeg (z_ix.lt hx1)) (cwV 0 hts gX3_flowThrough_X0_pressure rfl rfl rfl (by decide +kernel) ⟨Nat.le_of_ble_eq_true rfl, Nat.le_of_ble_eq_true rfl⟩) (z_recv (ci := 0) (i := (20 + x1.toNatClampNeg)) hK hH (zk_b (z_ix.lt hx1)) (by decide) rfl) hH hK hN zw_nest_ok rfl hl.1 rfl (Nat.le_of_ble_eq_true rfl) dX3_flowThrough_21 ⟨Nat.le_refl _, Nat.le_refl _⟩ hS (fun _ h => h) (fun H locs hB1 oq1 hz1 hS => ?_)
  have hH := hB1
  refine lv_topi (fun x3 ex3 => ?_)
  refine lv_aload_n hx hb dX3_flowThrough_24 rfl (lv_at hl 0 rfl) ?_
  refine z_cVi (D := (dC, dI)) (cl := vwCl) (tys := zt ca) (nw := zw_nest) (C := RX0) (As := []) (rest := [.int x3]) ⟨hx, hb, hml, hown, hts⟩ (m_X0_pressure l dC dI ca ad hI M x2.toNatClampNeg (z_ix.lt hx2)) (cwV 0 hts gX3_flowThrough_X0_pressure rfl rfl rfl (by decide +kernel) ⟨Nat.le_of_ble_eq_true rfl, Nat.le_of_ble_eq_true rfl⟩) (z_recv (ci := 0) (i := (20 + x2.toNatClampNeg)) hK hH (zk_b (z_ix.lt hx2)) (by decide) rfl) hH hK hN zw_nest_ok rfl hl.1 rfl (Nat.le_of_ble_eq_true rfl) dX3_flowThrough_25 ⟨Nat.le_refl _, Nat.le_refl _⟩ hS (fun _ h => h) (fun H locs hB1 oq1 hz1 hS => ?_)
  have hH := hB1
  refine lv_topi (fun x4 ex4 => ?_)
  refine lv_isub hx hb dX3_flowThrough_28 ?_
  refine lv_topi (fun x5 ex5 => ?_)
  refine lv_istore (lv' := [(4, .int x5), (3, .ref (ad (20 + x2.toNatClampNeg))), (2, .ref (ad (20 + x1.toNatClampNeg))), (0, .ref (ad 0)), (1, .ref (ad (40 + f)))]) hx hb dX3_flowThrough_29 hl (by decide) rfl (fun ls hl => ?_)
  refine lv_iload hx hb dX3_flowThrough_31 (lv_at hl 0 rfl) ?_
  have J8 : ∀ u7 : Nat, u7 = (if x5 < 0 then x2.toNatClampNeg else x1.toNatClampNeg) → u7 < 8 → ∀ ls : Array Slot, lv_has ls 9 [(0, .ref (ad 0)), (1, .ref (ad (40 + f))), (2, .ref (ad (20 + x1.toNatClampNeg))), (3, .ref (ad (20 + x2.toNatClampNeg))), (4, .int x5)] → W p l e (headSpec wsX3_flowThrough ({ frames := 2, cells := 0, slots := 0, locals := 45 })).room s m ([.ref (ad 0), .ref (ad (40 + f))] : List Value).toArray below meth c H locs 0 0 (MQ below (z_Qv (fun H => zW dC dI ca ad (fX3_flowThrough M f) H ∧ z_Fx M (fX3_flowThrough M f)) (z_A zd ad)) ([.ref (ad 0), .ref (ad (40 + f))] : List Value).toArray s 0 0 (z_A zd ad)) (F0 m 41 ls [.ref (ad (20 + u7))]) := by
    intro u7 eu7 h_u7 ls hl
    refine lv_astore (lv' := [(5, .ref (ad (20 + u7))), (0, .ref (ad 0)), (1, .ref (ad (40 + f))), (2, .ref (ad (20 + x1.toNatClampNeg))), (3, .ref (ad (20 + x2.toNatClampNeg))), (4, .int x5)]) hx hb dX3_flowThrough_41 hl (by decide) rfl (fun ls hl => ?_)
    refine lv_iload hx hb dX3_flowThrough_43 (lv_at hl 5 rfl) ?_
    have J11 : ∀ u10 : Nat, u10 = (if x5 < 0 then x1.toNatClampNeg else x2.toNatClampNeg) → u10 < 8 → ∀ ls : Array Slot, lv_has ls 9 [(0, .ref (ad 0)), (1, .ref (ad (40 + f))), (2, .ref (ad (20 + x1.toNatClampNeg))), (3, .ref (ad (20 + x2.toNatClampNeg))), (4, .int x5), (5, .ref (ad (20 + u7)))] → W p l e (headSpec wsX3_flowThrough ({ frames := 2, cells := 0, slots := 0, locals := 45 })).room s m ([.ref (ad 0), .ref (ad (40 + f))] : List Value).toArray below meth c H locs 0 0 (MQ below (z_Qv (fun H => zW dC dI ca ad (fX3_flowThrough M f) H ∧ z_Fx M (fX3_flowThrough M f)) (z_A zd ad)) ([.ref (ad 0), .ref (ad (40 + f))] : List Value).toArray s 0 0 (z_A zd ad)) (F0 m 53 ls [.ref (ad (20 + u10))]) := by
      intro u10 eu10 h_u10 ls hl
      refine lv_astore (lv' := [(6, .ref (ad (20 + u10))), (0, .ref (ad 0)), (1, .ref (ad (40 + f))), (2, .ref (ad (20 + x1.toNatClampNeg))), (3, .ref (ad (20 + x2.toNatClampNeg))), (4, .int x5), (5, .ref (ad (20 + u7)))]) hx hb dX3_flowThrough_53 hl (by decide) rfl (fun ls hl => ?_)
      refine lv_iload hx hb dX3_flowThrough_55 (lv_at hl 5 rfl) ?_
      refine va_mabs hx hb (hml.trans hl.1.symm) hown (hts (.methodLink RX3 189 Lib.Math.abs.name) (by decide +kernel)) (hts (.static Lib.Math.abs.name) (by decide +kernel)) (hts (.initialized "java/lang/Math") (by decide +kernel)) (hts (.code Lib.Math.abs.name Lib.Math.abs.code 1 (some .int)) (by decide +kernel)) (Nat.le_of_ble_eq_true rfl) (Nat.le_of_ble_eq_true rfl) (Nat.le_refl _) (Nat.le_refl _) dX3_flowThrough_57 ?_
      refine lv_topi (fun x12 ex12 => ?_)
      refine lv_istore (lv' := [(7, .int x12), (6, .ref (ad (20 + u10))), (0, .ref (ad 0)), (1, .ref (ad (40 + f))), (2, .ref (ad (20 + x1.toNatClampNeg))), (3, .ref (ad (20 + x2.toNatClampNeg))), (4, .int x5), (5, .ref (ad (20 + u7)))]) hx hb dX3_flowThrough_60 hl (by decide) rfl (fun ls hl => ?_)
      refine lv_aload hx hb dX3_flowThrough_62 (lv_at hl 7 rfl) ?_
      refine lv_iload hx hb dX3_flowThrough_64 (lv_at hl 0 rfl) ?_
      refine lv_aload_n hx hb dX3_flowThrough_66 rfl (lv_at hl 3 rfl) ?_
      refine z_giN (D := (dC, dI)) (cl := vwCl) (C := RX2) (T := TX2) (N := 4) (ci := 2) (k := 2) hx hb hts hinX2 hown hK hH (zk_f h_f) (by decide) rfl (by decide) rfl (hN (.fieldLinkNest RX3 194 "Steamfield$Face" "open" "I" "Steamfield") (by decide +kernel)) (fun _ h9 => h9) dX3_flowThrough_67 ?_
      refine lv_topi (fun x13 ex13 => ?_)
      refine lv_imul hx hb dX3_flowThrough_70 ?_
      refine lv_topi (fun x14 ex14 => ?_)
      refine lv_bipush (v := 20) hx hb dX3_flowThrough_71 (by decide) ?_
      refine lv_idiv hx hb dX3_flowThrough_73 (by decide) ?_
      refine lv_topi (fun x15 ex15 => ?_)
      refine lv_aload_n hx hb dX3_flowThrough_74 rfl (lv_at hl 2 rfl) ?_
      refine z_gr (D := (dC, dI)) (cl := vwCl) (C := RX3) (T := TX3) (N := 15) (ci := 3) (k := 9) hx hb hts hinX3 hown hK hH zk_0 (by decide) rfl (by decide) rfl (zr_0 (k := 9) (by decide)) (hts (.fieldLink RX3 63 "Steamfield$Land" "load" "LSteamfield$Water;") (by decide +kernel)) (fun _ h9 => h9) dX3_flowThrough_75 ?_
      refine z_cVv (D := (dC, dI)) (cl := vwCl) (tys := zt ca) (nw := zw_nest) (C := RX0) (As := [.int x15, .ref (ad 10)]) (rest := []) ⟨hx, hb, hml, hown, hts⟩ (m_X0_take l dC dI ca ad hI M u7 h_u7 x15 10 zk_10) (cwV 2 hts gX3_flowThrough_X0_take rfl rfl rfl (by decide +kernel) ⟨Nat.le_of_ble_eq_true rfl, Nat.le_of_ble_eq_true rfl⟩) (z_recv (ci := 0) (i := (20 + u7)) hK hH (zk_b h_u7) (by decide) rfl) hH hK hN zw_nest_ok rfl hl.1 rfl (Nat.le_of_ble_eq_true rfl) dX3_flowThrough_78 ⟨Nat.le_refl _, Nat.le_refl _⟩ hS (fun _ h => h) (fun H locs hB1 oq1 hz1 hS => ?_)
      have hH := hB1
      obtain ⟨M16, hM16⟩ : ∃ z : zM, z = fX0_take M u7 x15 10 := ⟨_, rfl⟩
      have hH : z_H (dC, dI) vwCl zf ca zd ad M16 H := by rw [hM16]; exact hH
      have hFx : z_Fx M M16 := hFx.tr (by rw [hM16]; exact (fx_X0_take M u7 h_u7 x15 10 zk_10))
      have hOk : z_Ok M16 := hOk0.fx hFx
      refine lv_aload hx hb dX3_flowThrough_81 (lv_at hl 1 rfl) ?_
      refine z_grN (D := (dC, dI)) (cl := vwCl) (C := RX0) (T := TX0) (N := 3) (ci := 0) (k := 0) hx hb hts hinX0 hown hK hH (zk_b h_u10) (by decide) rfl (by decide) rfl (zr_b h_u10) (hN (.fieldLinkNest RX3 123 "Steamfield$Block" "water" "LSteamfield$Water;" "Steamfield") (by decide +kernel)) (fun _ h9 => h9) dX3_flowThrough_83 ?_
      refine lv_aload_n hx hb dX3_flowThrough_86 rfl (lv_at hl 2 rfl) ?_
      refine z_gr (D := (dC, dI)) (cl := vwCl) (C := RX3) (T := TX3) (N := 15) (ci := 3) (k := 9) hx hb hts hinX3 hown hK hH zk_0 (by decide) rfl (by decide) rfl (zr_0 (k := 9) (by decide)) (hts (.fieldLink RX3 63 "Steamfield$Land" "load" "LSteamfield$Water;") (by decide +kernel)) (fun _ h9 => h9) dX3_flowThrough_87 ?_
      refine z_cVv (D := (dC, dI)) (cl := vwCl) (tys := zt ca) (nw := zw_nest) (C := RX6) (As := [.ref (ad 10)]) (rest := []) ⟨hx, hb, hml, hown, hts⟩ (m_X6_add l dC dI ca ad hI M16 (30 + u10) (zk_w h_u10) 10 zk_10) (cwV 1 hts gX3_flowThrough_X6_add rfl rfl rfl (by decide +kernel) ⟨Nat.le_of_ble_eq_true rfl, Nat.le_of_ble_eq_true rfl⟩) (z_recv (ci := 6) (i := (30 + u10)) hK hH (zk_w h_u10) (by decide) rfl) hH hK hN zw_nest_ok rfl hl.1 rfl (Nat.le_of_ble_eq_true rfl) dX3_flowThrough_90 ⟨Nat.le_refl _, Nat.le_refl _⟩ hS (fun _ h => h) (fun H locs hB1 oq1 hz1 hS => ?_)
      have hH := hB1
      obtain ⟨M17, hM17⟩ : ∃ z : zM, z = fX6_add M16 (30 + u10) 10 := ⟨_, rfl⟩
      have hH : z_H (dC, dI) vwCl zf ca zd ad M17 H := by rw [hM17]; exact hH
      have hFx : z_Fx M M17 := hFx.tr (by rw [hM17]; exact (fx_X6_add M16 (30 + u10) (zk_w h_u10) 10 zk_10))
      have hOk : z_Ok M17 := hOk0.fx hFx
      refine lv_aload_n hx hb dX3_flowThrough_93 rfl (lv_at hl 3 rfl) ?_
      refine lv_iload hx hb dX3_flowThrough_94 (lv_at hl 6 rfl) ?_
      have J20 : ∀ x19 : Int32, x19 = (if x5 < 0 then (let x19 : Int32 := M17 10 0; let x20 : Int32 := 0 - x19; x20) else (let x19 : Int32 := M17 10 0; x19)) → ∀ ls : Array Slot, lv_has ls 9 [(0, .ref (ad 0)), (1, .ref (ad (40 + f))), (2, .ref (ad (20 + x1.toNatClampNeg))), (3, .ref (ad (20 + x2.toNatClampNeg))), (4, .int x5), (5, .ref (ad (20 + u7))), (6, .ref (ad (20 + u10))), (7, .int x12)] → W p l e (headSpec wsX3_flowThrough ({ frames := 2, cells := 0, slots := 0, locals := 45 })).room s m ([.ref (ad 0), .ref (ad (40 + f))] : List Value).toArray below meth c H locs 0 0 (MQ below (z_Qv (fun H => zW dC dI ca ad (fX3_flowThrough M f) H ∧ z_Fx M (fX3_flowThrough M f)) (z_A zd ad)) ([.ref (ad 0), .ref (ad (40 + f))] : List Value).toArray s 0 0 (z_A zd ad)) (F0 m 117 ls [.int x19, .ref (ad (40 + f))]) := by
        intro x19 ex19 ls hl
        refine zp_iN (D := (dC, dI)) (cl := vwCl) (C := RX2) (T := TX2) (N := 4) (ci := 2) (k := 3) (ty := .int) hx hb hts hinX2 tyX2 tyX2_ok nmX2 hown hK hH hI hS (fun _ h => h) (zk_f h_f) (by decide) rfl (by decide) rfl (hN (.fieldLinkNest RX3 207 "Steamfield$Face" "flow" "I" "Steamfield") (by decide +kernel)) (fun _ h9 => h9) rfl (by decide +kernel) rfl rfl dX3_flowThrough_117 (fun H locs hH oq hS => ?_)
        obtain ⟨M21, hM21⟩ : ∃ z : zM, z = zu M17 (40 + f) 3 x19 := ⟨_, rfl⟩
        rw [← hM21] at hH
        have hFx : z_Fx M M21 := hFx.tr (by rw [hM21]; exact (z_Fx.u (zk_f h_f) rfl))
        have hOk : z_Ok M21 := hOk0.fx hFx
        refine lv_aload_n hx hb dX3_flowThrough_120 rfl (lv_at hl 2 rfl) ?_
        refine z_cVi (D := (dC, dI)) (cl := vwCl) (tys := zt ca) (nw := zw_nest) (C := RX0) (As := []) (rest := []) ⟨hx, hb, hml, hown, hts⟩ (m_X0_warmth l dC dI ca ad hI M21 x1.toNatClampNeg (z_ix.lt hx1)) (cwV 0 hts gX3_flowThrough_X0_warmth rfl rfl rfl (by decide +kernel) ⟨Nat.le_of_ble_eq_true rfl, Nat.le_of_ble_eq_true rfl⟩) (z_recv (ci := 0) (i := (20 + x1.toNatClampNeg)) hK hH (zk_b (z_ix.lt hx1)) (by decide) rfl) hH hK hN zw_nest_ok rfl hl.1 rfl (Nat.le_of_ble_eq_true rfl) dX3_flowThrough_121 ⟨Nat.le_refl _, Nat.le_refl _⟩ hS (fun _ h => h) (fun H locs hB1 oq1 hz1 hS => ?_)
        have hH := hB1
        refine lv_topi (fun x22 ex22 => ?_)
        refine lv_aload_n hx hb dX3_flowThrough_124 rfl (lv_at hl 3 rfl) ?_
        refine z_cVi (D := (dC, dI)) (cl := vwCl) (tys := zt ca) (nw := zw_nest) (C := RX0) (As := []) (rest := [.int x22]) ⟨hx, hb, hml, hown, hts⟩ (m_X0_warmth l dC dI ca ad hI M21 x2.toNatClampNeg (z_ix.lt hx2)) (cwV 0 hts gX3_flowThrough_X0_warmth rfl rfl rfl (by decide +kernel) ⟨Nat.le_of_ble_eq_true rfl, Nat.le_of_ble_eq_true rfl⟩) (z_recv (ci := 0) (i := (20 + x2.toNatClampNeg)) hK hH (zk_b (z_ix.lt hx2)) (by decide) rfl) hH hK hN zw_nest_ok rfl hl.1 rfl (Nat.le_of_ble_eq_true rfl) dX3_flowThrough_125 ⟨Nat.le_refl _, Nat.le_refl _⟩ hS (fun _ h => h) (fun H locs hB1 oq1 hz1 hS => ?_)
        have hH := hB1
        refine lv_topi (fun x23 ex23 => ?_)
        refine lv_isub hx hb dX3_flowThrough_128 ?_
        refine lv_topi (fun x24 ex24 => ?_)
        refine lv_aload_n hx hb dX3_flowThrough_129 rfl (lv_at hl 1 rfl) ?_
        refine z_giN (D := (dC, dI)) (cl := vwCl) (C := RX2) (T := TX2) (N := 4) (ci := 2) (k := 2) hx hb hts hinX2 hown hK hH (zk_f h_f) (by decide) rfl (by decide) rfl (hN (.fieldLinkNest RX3 194 "Steamfield$Face" "open" "I" "Steamfield") (by decide +kernel)) (fun _ h9 => h9) dX3_flowThrough_130 ?_
        refine lv_topi (fun x25 ex25 => ?_)
        refine lv_imul hx hb dX3_flowThrough_133 ?_
        refine lv_topi (fun x26 ex26 => ?_)
        refine lv_istore (lv' := [(8, .int x26), (0, .ref (ad 0)), (1, .ref (ad (40 + f))), (2, .ref (ad (20 + x1.toNatClampNeg))), (3, .ref (ad (20 + x2.toNatClampNeg))), (4, .int x5), (5, .ref (ad (20 + u7))), (6, .ref (ad (20 + u10))), (7, .int x12)]) hx hb dX3_flowThrough_134 hl (by decide) rfl (fun ls hl => ?_)
        refine lv_aload_n hx hb dX3_flowThrough_136 rfl (lv_at hl 3 rfl) ?_
        refine z_grN (D := (dC, dI)) (cl := vwCl) (C := RX0) (T := TX0) (N := 3) (ci := 0) (k := 0) hx hb hts hinX0 hown hK hH (zk_b (z_ix.lt hx1)) (by decide) rfl (by decide) rfl (zr_b (z_ix.lt hx1)) (hN (.fieldLinkNest RX3 123 "Steamfield$Block" "water" "LSteamfield$Water;" "Steamfield") (by decide +kernel)) (fun _ h9 => h9) dX3_flowThrough_137 ?_
        refine lv_dup hx hb dX3_flowThrough_140 rfl ?_
        refine z_giN (D := (dC, dI)) (cl := vwCl) (C := RX6) (T := TX6) (N := 4) (ci := 6) (k := 1) hx hb hts hinX6 hown hK hH (zk_w (z_ix.lt hx1)) (by decide) rfl (by decide) rfl (hN (.fieldLinkNest RX3 213 "Steamfield$Water" "heat" "I" "Steamfield") (by decide +kernel)) (fun _ h9 => h9) dX3_flowThrough_141 ?_
        refine lv_topi (fun x27 ex27 => ?_)
        refine lv_iload hx hb dX3_flowThrough_144 (lv_at hl 0 rfl) ?_
        refine lv_isub hx hb dX3_flowThrough_146 ?_
        refine lv_topi (fun x28 ex28 => ?_)
        refine zp_iN (D := (dC, dI)) (cl := vwCl) (C := RX6) (T := TX6) (N := 4) (ci := 6) (k := 1) (ty := .int) hx hb hts hinX6 tyX6 tyX6_ok nmX6 hown hK hH hI hS (fun _ h => h) (zk_w (z_ix.lt hx1)) (by decide) rfl (by decide) rfl (hN (.fieldLinkNest RX3 213 "Steamfield$Water" "heat" "I" "Steamfield") (by decide +kernel)) (fun _ h9 => h9) rfl (by decide +kernel) rfl rfl dX3_flowThrough_147 (fun H locs hH oq hS => ?_)
        obtain ⟨M29, hM29⟩ : ∃ z : zM, z = zu M21 (30 + x1.toNatClampNeg) 1 x28 := ⟨_, rfl⟩
        rw [← hM29] at hH
        have hFx : z_Fx M M29 := hFx.tr (by rw [hM29]; exact (z_Fx.u (zk_w (z_ix.lt hx1)) rfl))
        have hOk : z_Ok M29 := hOk0.fx hFx
        refine lv_aload_n hx hb dX3_flowThrough_150 rfl (lv_at hl 4 rfl) ?_
        refine z_grN (D := (dC, dI)) (cl := vwCl) (C := RX0) (T := TX0) (N := 3) (ci := 0) (k := 0) hx hb hts hinX0 hown hK hH (zk_b (z_ix.lt hx2)) (by decide) rfl (by decide) rfl (zr_b (z_ix.lt hx2)) (hN (.fieldLinkNest RX3 123 "Steamfield$Block" "water" "LSteamfield$Water;" "Steamfield") (by decide +kernel)) (fun _ h9 => h9) dX3_flowThrough_151 ?_
        refine lv_dup hx hb dX3_flowThrough_154 rfl ?_
        refine z_giN (D := (dC, dI)) (cl := vwCl) (C := RX6) (T := TX6) (N := 4) (ci := 6) (k := 1) hx hb hts hinX6 hown hK hH (zk_w (z_ix.lt hx2)) (by decide) rfl (by decide) rfl (hN (.fieldLinkNest RX3 213 "Steamfield$Water" "heat" "I" "Steamfield") (by decide +kernel)) (fun _ h9 => h9) dX3_flowThrough_155 ?_
        refine lv_topi (fun x30 ex30 => ?_)
        refine lv_iload hx hb dX3_flowThrough_158 (lv_at hl 0 rfl) ?_
        refine lv_iadd hx hb dX3_flowThrough_160 ?_
        refine lv_topi (fun x31 ex31 => ?_)
        refine zp_iN (D := (dC, dI)) (cl := vwCl) (C := RX6) (T := TX6) (N := 4) (ci := 6) (k := 1) (ty := .int) hx hb hts hinX6 tyX6 tyX6_ok nmX6 hown hK hH hI hS (fun _ h => h) (zk_w (z_ix.lt hx2)) (by decide) rfl (by decide) rfl (hN (.fieldLinkNest RX3 213 "Steamfield$Water" "heat" "I" "Steamfield") (by decide +kernel)) (fun _ h9 => h9) rfl (by decide +kernel) rfl rfl dX3_flowThrough_161 (fun H locs hH oq hS => ?_)
        obtain ⟨M32, hM32⟩ : ∃ z : zM, z = zu M29 (30 + x2.toNatClampNeg) 1 x31 := ⟨_, rfl⟩
        rw [← hM32] at hH
        have hFx : z_Fx M M32 := hFx.tr (by rw [hM32]; exact (z_Fx.u (zk_w (z_ix.lt hx2)) rfl))
        have hOk : z_Ok M32 := hOk0.fx hFx
        refine lv_iload hx hb dX3_flowThrough_164 (lv_at hl 8 rfl) ?_
        refine lv_bipush (v := 50) hx hb dX3_flowThrough_166 (by decide) ?_
        have J35 : ∀ M34 : zM, M34 = (if x12 < 50 then M32 else (let x34 : Int32 := M32 (40 + f) 2; let x35 : Int32 := x34 + 1; let x36 : Int32 := if 9 < x35 then 9 else x35; let M37 : zM := zu M32 (40 + f) 2 x36; M37)) → ∀ ls : Array Slot, lv_has ls 9 [(0, .ref (ad 0)), (1, .ref (ad (40 + f))), (2, .ref (ad (20 + x1.toNatClampNeg))), (3, .ref (ad (20 + x2.toNatClampNeg))), (4, .int x5), (5, .ref (ad (20 + u7))), (6, .ref (ad (20 + u10))), (7, .int x12), (8, .int x26)] → ∀ (H : Heap) (locs : List Loc), zW dC dI ca ad M34 H → z_Fx M M34 → va_S (z_A zd ad) s.heap H locs → W p l e (headSpec wsX3_flowThrough ({ frames := 2, cells := 0, slots := 0, locals := 45 })).room s m ([.ref (ad 0), .ref (ad (40 + f))] : List Value).toArray below meth c H locs 0 0 (MQ below (z_Qv (fun H => zW dC dI ca ad (fX3_flowThrough M f) H ∧ z_Fx M (fX3_flowThrough M f)) (z_A zd ad)) ([.ref (ad 0), .ref (ad (40 + f))] : List Value).toArray s 0 0 (z_A zd ad)) (F0 m 186 ls []) := by
          intro M34 hM34 ls hl H locs hH hFx hS
          have hOk : z_Ok M34 := hOk0.fx hFx
          have hF0 : zW dC dI ca ad (fX3_flowThrough M f) H := by
            have e9 : M34 = (fX3_flowThrough M f) := by subst hM34; subst hM32; subst ex31; subst ex30; subst hM29; subst ex28; subst ex27; subst ex26; subst ex25; subst ex24; subst ex23; subst ex22; subst hM21; subst ex19; subst hM17; subst hM16; subst ex15; subst ex14; subst ex13; subst ex12; subst eu10; subst eu7; subst ex5; subst ex4; subst ex3; subst ex2; subst ex1; rfl
            rw [← e9]; exact hH
          have hFF : z_Fx M (fX3_flowThrough M f) := by
            have e9 : M34 = (fX3_flowThrough M f) := by subst hM34; subst hM32; subst ex31; subst ex30; subst hM29; subst ex28; subst ex27; subst ex26; subst ex25; subst ex24; subst ex23; subst ex22; subst hM21; subst ex19; subst hM17; subst hM16; subst ex15; subst ex14; subst ex13; subst ex12; subst eu10; subst eu7; subst ex5; subst ex4; subst ex3; subst ex2; subst ex1; rfl
            rw [← e9]; exact hFx
          exact W.vret hx hb hr (fun t ht hW => ⟨⟨(), rfl, trivial, z_to (B := fun H => zW dC dI ca ad (fX3_flowThrough M f) H ∧ z_Fx M (fX3_flowThrough M f)) ht ⟨hF0, hFF⟩⟩, hS.F ht⟩) hS.2.2 dX3_flowThrough_186
        refine lv_icmp_lt (tgt := 186) hx hb dX3_flowThrough_168 (by decide) (fun c33 => ?_) (fun c33 => ?_)
        · exact J35 _ (by exact (if_pos c33).symm) ls (lv_sub hl [1, 2, 3, 4, 5, 6, 7, 8, 0] rfl) _ _ hH hFx hS
        · refine lv_aload_n hx hb dX3_flowThrough_171 rfl (lv_at hl 2 rfl) ?_
          refine lv_aload_n hx hb dX3_flowThrough_172 rfl (lv_at hl 2 rfl) ?_
          refine z_giN (D := (dC, dI)) (cl := vwCl) (C := RX2) (T := TX2) (N := 4) (ci := 2) (k := 2) hx hb hts hinX2 hown hK hH (zk_f h_f) (by decide) rfl (by decide) rfl (hN (.fieldLinkNest RX3 194 "Steamfield$Face" "open" "I" "Steamfield") (by decide +kernel)) (fun _ h9 => h9) dX3_flowThrough_173 ?_
          refine lv_topi (fun x34 ex34 => ?_)
          refine lv_iconst (v := 1) hx hb dX3_flowThrough_176 (by decide) ?_
          refine lv_iadd hx hb dX3_flowThrough_177 ?_
          refine lv_topi (fun x35 ex35 => ?_)
          refine lv_bipush (v := 9) hx hb dX3_flowThrough_178 (by decide) ?_
          refine va_mmin hx hb (hml.trans hl.1.symm) hown (hts (.methodLink RX3 216 Lib.Math.min.name) (by decide +kernel)) (hts (.static Lib.Math.min.name) (by decide +kernel)) (hts (.initialized "java/lang/Math") (by decide +kernel)) (hts (.code Lib.Math.min.name Lib.Math.min.code 2 (some .int)) (by decide +kernel)) (Nat.le_of_ble_eq_true rfl) (Nat.le_of_ble_eq_true rfl) (Nat.le_refl _) (Nat.le_refl _) dX3_flowThrough_180 ?_
          refine lv_topi (fun x36 ex36 => ?_)
          refine zp_iN (D := (dC, dI)) (cl := vwCl) (C := RX2) (T := TX2) (N := 4) (ci := 2) (k := 2) (ty := .int) hx hb hts hinX2 tyX2 tyX2_ok nmX2 hown hK hH hI hS (fun _ h => h) (zk_f h_f) (by decide) rfl (by decide) rfl (hN (.fieldLinkNest RX3 194 "Steamfield$Face" "open" "I" "Steamfield") (by decide +kernel)) (fun _ h9 => h9) rfl (by decide +kernel) rfl rfl dX3_flowThrough_183 (fun H locs hH oq hS => ?_)
          obtain ⟨M37, hM37⟩ : ∃ z : zM, z = zu M32 (40 + f) 2 x36 := ⟨_, rfl⟩
          rw [← hM37] at hH
          have hFx : z_Fx M M37 := hFx.tr (by rw [hM37]; exact (z_Fx.u (zk_f h_f) rfl))
          have hOk : z_Ok M37 := hOk0.fx hFx
          exact J35 _ (by subst hM37; subst ex36; subst ex35; subst ex34; exact (if_neg c33).symm) ls (lv_sub hl [1, 2, 3, 4, 5, 6, 7, 8, 0] rfl) _ _ hH hFx hS
      refine lv_if_lt (tgt := 109) hx hb dX3_flowThrough_96 (by decide) (fun c18 => ?_) (fun c18 => ?_)
      · refine lv_aload_n hx hb dX3_flowThrough_109 rfl (lv_at hl 2 rfl) ?_
        refine z_gr (D := (dC, dI)) (cl := vwCl) (C := RX3) (T := TX3) (N := 15) (ci := 3) (k := 9) hx hb hts hinX3 hown hK hH zk_0 (by decide) rfl (by decide) rfl (zr_0 (k := 9) (by decide)) (hts (.fieldLink RX3 63 "Steamfield$Land" "load" "LSteamfield$Water;") (by decide +kernel)) (fun _ h9 => h9) dX3_flowThrough_110 ?_
        refine z_giN (D := (dC, dI)) (cl := vwCl) (C := RX6) (T := TX6) (N := 4) (ci := 6) (k := 0) hx hb hts hinX6 hown hK hH zk_10 (by decide) rfl (by decide) rfl (hN (.fieldLinkNest RX3 204 "Steamfield$Water" "mass" "I" "Steamfield") (by decide +kernel)) (fun _ h9 => h9) dX3_flowThrough_113 ?_
        refine lv_topi (fun x19 ex19 => ?_)
        refine lv_ineg hx hb dX3_flowThrough_116 ?_
        refine lv_topi (fun x20 ex20 => ?_)
        exact J20 _ (by subst ex20; subst ex19; exact (if_pos c18).symm) ls (lv_sub hl [2, 3, 4, 5, 6, 7, 1, 0] rfl)
      · refine lv_aload_n hx hb dX3_flowThrough_99 rfl (lv_at hl 2 rfl) ?_
        refine z_gr (D := (dC, dI)) (cl := vwCl) (C := RX3) (T := TX3) (N := 15) (ci := 3) (k := 9) hx hb hts hinX3 hown hK hH zk_0 (by decide) rfl (by decide) rfl (zr_0 (k := 9) (by decide)) (hts (.fieldLink RX3 63 "Steamfield$Land" "load" "LSteamfield$Water;") (by decide +kernel)) (fun _ h9 => h9) dX3_flowThrough_100 ?_
        refine z_giN (D := (dC, dI)) (cl := vwCl) (C := RX6) (T := TX6) (N := 4) (ci := 6) (k := 0) hx hb hts hinX6 hown hK hH zk_10 (by decide) rfl (by decide) rfl (hN (.fieldLinkNest RX3 204 "Steamfield$Water" "mass" "I" "Steamfield") (by decide +kernel)) (fun _ h9 => h9) dX3_flowThrough_103 ?_
        refine lv_topi (fun x19 ex19 => ?_)
        refine lv_goto (tgt := 117) hx hb dX3_flowThrough_106 (by decide) ?_
        exact J20 _ (by subst ex19; exact (if_neg c18).symm) ls (lv_sub hl [2, 3, 4, 5, 6, 7, 1, 0] rfl)
    refine lv_if_lt (tgt := 52) hx hb dX3_flowThrough_45 (by decide) (fun c9 => ?_) (fun c9 => ?_)
    · refine lv_aload_n hx hb dX3_flowThrough_52 rfl (lv_at hl 3 rfl) ?_
      exact J11 _ (by exact (if_pos c9).symm) (z_ix.lt hx1) ls (lv_sub hl [1, 2, 3, 4, 5, 0] rfl)
    · refine lv_aload_n hx hb dX3_flowThrough_48 rfl (lv_at hl 4 rfl) ?_
      refine lv_goto (tgt := 53) hx hb dX3_flowThrough_49 (by decide) ?_
      exact J11 _ (by exact (if_neg c9).symm) (z_ix.lt hx2) ls (lv_sub hl [1, 2, 3, 4, 5, 0] rfl)
  refine lv_if_lt (tgt := 40) hx hb dX3_flowThrough_33 (by decide) (fun c6 => ?_) (fun c6 => ?_)
  · refine lv_aload_n hx hb dX3_flowThrough_40 rfl (lv_at hl 1 rfl) ?_
    exact J8 _ (by exact (if_pos c6).symm) (z_ix.lt hx2) ls (lv_sub hl [3, 4, 2, 1, 0] rfl)
  · refine lv_aload_n hx hb dX3_flowThrough_36 rfl (lv_at hl 2 rfl) ?_
    refine lv_goto (tgt := 41) hx hb dX3_flowThrough_37 (by decide) ?_
    exact J8 _ (by exact (if_neg c6).symm) (z_ix.lt hx1) ls (lv_sub hl [3, 4, 2, 1, 0] rfl)

def fX3_produce (M : zM) (v : Nat) : zM :=
  let x1 : Int32 := M (60 + v) 0
  let x2 : Int32 := rX0_warmth M x1.toNatClampNeg
  let x3 : Int32 := rX0_pressure M x1.toNatClampNeg
  let x4 : Int32 := x3 - 40
  let x5 : Int32 := M (60 + v) 3
  let x6 : Int32 := 3 * x5
  let x7 : Int32 := x4 - x6
  let x8 : Int32 := if x7 < 0 then 0 else x7
  let x9 : Int32 := M (60 + v) 2
  let x10 : Int32 := x8 * x9
  let x11 : Int32 := x10 / 20
  let M12 : zM := fX0_take M x1.toNatClampNeg x11 10
  let x13 : Int32 := M12 10 0
  let x14 : Int32 := x2 - 100
  let x15 : Int32 := if x14 < 0 then 0 else x14
  let x16 : Int32 := x13 * x15
  let x17 : Int32 := x16 / 400
  let x18 : Int32 := M12 10 0
  let x19 : Int32 := if x18 < x17 then x18 else x17
  let x20 : Int32 := M12 10 0
  let x21 : Int32 := x20 - x19
  let M22 : zM := fX7_note M12 v 10 x19
  let x23 : Int32 := M22 10 2
  let x24 : Int32 := 10 * x23
  let x25 : Int32 := 30 * x21
  let M27 : zM := if x24 ≤ x25 then M22 else (let M27 : zM := fX7_growCrust M22 v; M27)
  let M29 : zM := zu M27 10 0 x21
  let x30 : Int32 := if 100 < x2 then 100 else x2
  let x31 : Int32 := x21 * x30
  let M32 : zM := zu M29 10 1 x31
  let M33 : zM := fX6_add M32 5 10
  M33
def rX3_produce (M : zM) (v : Nat) : Int32 :=
  let x1 : Int32 := M (60 + v) 0
  let x2 : Int32 := rX0_warmth M x1.toNatClampNeg
  let x3 : Int32 := rX0_pressure M x1.toNatClampNeg
  let x4 : Int32 := x3 - 40
  let x5 : Int32 := M (60 + v) 3
  let x6 : Int32 := 3 * x5
  let x7 : Int32 := x4 - x6
  let x8 : Int32 := if x7 < 0 then 0 else x7
  let x9 : Int32 := M (60 + v) 2
  let x10 : Int32 := x8 * x9
  let x11 : Int32 := x10 / 20
  let M12 : zM := fX0_take M x1.toNatClampNeg x11 10
  let x13 : Int32 := M12 10 0
  let x14 : Int32 := x2 - 100
  let x15 : Int32 := if x14 < 0 then 0 else x14
  let x16 : Int32 := x13 * x15
  let x17 : Int32 := x16 / 400
  let x18 : Int32 := M12 10 0
  let x19 : Int32 := if x18 < x17 then x18 else x17
  let x20 : Int32 := M12 10 0
  let x21 : Int32 := x20 - x19
  let M22 : zM := fX7_note M12 v 10 x19
  let x23 : Int32 := M22 10 2
  let x24 : Int32 := 10 * x23
  let x25 : Int32 := 30 * x21
  let M27 : zM := if x24 ≤ x25 then M22 else (let M27 : zM := fX7_growCrust M22 v; M27)
  let M29 : zM := zu M27 10 0 x21
  let x30 : Int32 := if 100 < x2 then 100 else x2
  let x31 : Int32 := x21 * x30
  let M32 : zM := zu M29 10 1 x31
  let M33 : zM := fX6_add M32 5 10
  x19
set_option maxHeartbeats 4000000 in
set_option maxRecDepth 100000 in
theorem m_X3_produce (l : Launch) (dC : Nat → ClassId) (dI : Nat → Nat → Nat) (ca : Nat → ClassId) (ad : Nat → Nat) (hI : z_I zd ad) (M : zM) (v : Nat) (h_v : v < 6) (hOk0 : z_Ok M) : Met l yX3_produce wsX3_produce ({ frames := 2, cells := 0, slots := 0, locals := 45 }) (z_Pc (dC, dI) vwCl (zt ca) zw_nest [.ref (ad 0), .ref (ad (60 + v))] (fun H => zW dC dI ca ad M H)) (z_Qi (rX3_produce M v) (fun H => zW dC dI ca ad (fX3_produce M v) H ∧ z_Fx M (fX3_produce M v)) (z_A zd ad)) 0 0 (z_A zd ad) := by
  refine Met.ofW (cc := cX3_produce) (maxL := 7) (ret := (some .int)) (by decide) rfl ?_
  intro p e s m args below meth c s₁ B9 hml hv
  obtain ⟨rfl, hH, hK, hN⟩ := hv
  have hx := B9.exec
  have hb := B9.bytes
  have hr := B9.returns
  have hts := atoms_spec (ws := wsX3_produce) B9.pre
  have hown : s.vm.findClass RX3 = some m.cls := findClass_of_methodNamed B9.named
  have hlocks := B9.notSynchronized
  have hS : va_S (z_A zd ad) s.heap s.heap [] := va_S.rf
  have hOk := hOk0
  have hFx : z_Fx M M := z_Fx.rf
  have hH : zW dC dI ca ad M s.heap := hH
  have hinX3 : ∀ w ∈ u_ws RX3 TX3 15, w ∈ wsX3_produce := by decide +kernel
  have hinX6 : ∀ w ∈ u_ws RX6 TX6 4, w ∈ wsX3_produce := by decide +kernel
  have hinX7 : ∀ w ∈ u_ws RX7 TX7 9, w ∈ wsX3_produce := by decide +kernel
  have hl := lv_entry ([.ref (ad 0), .ref (ad (60 + v))]) (n := 7) (Nat.le_of_ble_eq_true rfl)
  rw [lg_entry_eq]
  generalize (lg_sl ([.ref (ad 0), .ref (ad (60 + v))]) ++ List.replicate (7 - (lg_sl ([.ref (ad 0), .ref (ad (60 + v))])).length) Slot.unset).toArray = ls at hl ⊢
  have hl : lv_has ls 7 [(0, .ref (ad 0)), (1, .ref (ad (60 + v)))] := hl
  refine lv_aload_n hx hb dX3_produce_0 rfl (lv_at hl 0 rfl) ?_
  refine z_gr (D := (dC, dI)) (cl := vwCl) (C := RX3) (T := TX3) (N := 15) (ci := 3) (k := 0) hx hb hts hinX3 hown hK hH zk_0 (by decide) rfl (by decide) rfl (zr_0 (k := 0) (by decide)) (hts (.fieldLink RX3 11 "Steamfield$Land" "blocks" "[LSteamfield$Block;") (by decide +kernel)) (fun _ h9 => h9) dX3_produce_1 ?_
  refine lv_aload_n hx hb dX3_produce_4 rfl (lv_at hl 1 rfl) ?_
  refine z_giN (D := (dC, dI)) (cl := vwCl) (C := RX7) (T := TX7) (N := 9) (ci := 7) (k := 0) hx hb hts hinX7 hown hK hH (zk_v h_v) (by decide) rfl (by decide) rfl (hN (.fieldLinkNest RX3 220 "Steamfield$Well" "block" "I" "Steamfield") (by decide +kernel)) (fun _ h9 => h9) dX3_produce_5 ?_
  refine lv_topi (fun x1 ex1 => ?_)
  have hx1 : z_ix x1 8 := by rw [ex1]; exact z_Ok.wblock hOk h_v
  refine z_aq (t0 := 1) (D := (dC, dI)) (cl := vwCl) (tys := zt ca) hx hb hK hH zk_1 (by decide) (by decide) rfl (show vp_in x1 8 from (z_ix.in hx1)) (show zr 1 (x1 : Int32).toNatClampNeg = some (20 + x1.toNatClampNeg) from zr_1 (z_ix.lt hx1)) dX3_produce_8 ?_
  refine lv_astore_n (lv' := [(2, .ref (ad (20 + x1.toNatClampNeg))), (0, .ref (ad 0)), (1, .ref (ad (60 + v)))]) hx hb dX3_produce_9 rfl hl (by decide) rfl (fun ls hl => ?_)
  refine lv_aload_n hx hb dX3_produce_10 rfl (lv_at hl 0 rfl) ?_
  refine z_cVi (D := (dC, dI)) (cl := vwCl) (tys := zt ca) (nw := zw_nest) (C := RX0) (As := []) (rest := []) ⟨hx, hb, hml, hown, hts⟩ (m_X0_warmth l dC dI ca ad hI M x1.toNatClampNeg (z_ix.lt hx1)) (cwV 0 hts gX3_produce_X0_warmth rfl rfl rfl (by decide +kernel) ⟨Nat.le_of_ble_eq_true rfl, Nat.le_of_ble_eq_true rfl⟩) (z_recv (ci := 0) (i := (20 + x1.toNatClampNeg)) hK hH (zk_b (z_ix.lt hx1)) (by decide) rfl) hH hK hN zw_nest_ok rfl hl.1 rfl (Nat.le_of_ble_eq_true rfl) dX3_produce_11 ⟨Nat.le_refl _, Nat.le_refl _⟩ hS (fun _ h => h) (fun H locs hB1 oq1 hz1 hS => ?_)
  have hH := hB1
  refine lv_topi (fun x2 ex2 => ?_)
  refine lv_istore_n (lv' := [(3, .int x2), (2, .ref (ad (20 + x1.toNatClampNeg))), (0, .ref (ad 0)), (1, .ref (ad (60 + v)))]) hx hb dX3_produce_14 rfl hl (by decide) rfl (fun ls hl => ?_)
  refine lv_aload_n hx hb dX3_produce_15 rfl (lv_at hl 1 rfl) ?_
  refine z_cVi (D := (dC, dI)) (cl := vwCl) (tys := zt ca) (nw := zw_nest) (C := RX0) (As := []) (rest := []) ⟨hx, hb, hml, hown, hts⟩ (m_X0_pressure l dC dI ca ad hI M x1.toNatClampNeg (z_ix.lt hx1)) (cwV 0 hts gX3_produce_X0_pressure rfl rfl rfl (by decide +kernel) ⟨Nat.le_of_ble_eq_true rfl, Nat.le_of_ble_eq_true rfl⟩) (z_recv (ci := 0) (i := (20 + x1.toNatClampNeg)) hK hH (zk_b (z_ix.lt hx1)) (by decide) rfl) hH hK hN zw_nest_ok rfl hl.1 rfl (Nat.le_of_ble_eq_true rfl) dX3_produce_16 ⟨Nat.le_refl _, Nat.le_refl _⟩ hS (fun _ h => h) (fun H locs hB1 oq1 hz1 hS => ?_)
  have hH := hB1
  refine lv_topi (fun x3 ex3 => ?_)
  refine lv_bipush (v := 40) hx hb dX3_produce_19 (by decide) ?_
  refine lv_isub hx hb dX3_produce_21 ?_
  refine lv_topi (fun x4 ex4 => ?_)
  refine lv_iconst (v := 3) hx hb dX3_produce_22 (by decide) ?_
  refine lv_aload_n hx hb dX3_produce_23 rfl (lv_at hl 3 rfl) ?_
  refine z_giN (D := (dC, dI)) (cl := vwCl) (C := RX7) (T := TX7) (N := 9) (ci := 7) (k := 3) hx hb hts hinX7 hown hK hH (zk_v h_v) (by decide) rfl (by decide) rfl (hN (.fieldLinkNest RX3 223 "Steamfield$Well" "scale" "I" "Steamfield") (by decide +kernel)) (fun _ h9 => h9) dX3_produce_24 ?_
  refine lv_topi (fun x5 ex5 => ?_)
  refine lv_imul hx hb dX3_produce_27 ?_
  refine lv_topi (fun x6 ex6 => ?_)
  refine lv_isub hx hb dX3_produce_28 ?_
  refine lv_topi (fun x7 ex7 => ?_)
  refine lv_iconst (v := 0) hx hb dX3_produce_29 (by decide) ?_
  refine va_mmax hx hb (hml.trans hl.1.symm) hown (hts (.methodLink RX3 226 Lib.Math.max.name) (by decide +kernel)) (hts (.static Lib.Math.max.name) (by decide +kernel)) (hts (.initialized "java/lang/Math") (by decide +kernel)) (hts (.code Lib.Math.max.name Lib.Math.max.code 2 (some .int)) (by decide +kernel)) (Nat.le_of_ble_eq_true rfl) (Nat.le_of_ble_eq_true rfl) (Nat.le_refl _) (Nat.le_refl _) dX3_produce_30 ?_
  refine lv_topi (fun x8 ex8 => ?_)
  refine lv_istore (lv' := [(4, .int x8), (3, .int x2), (2, .ref (ad (20 + x1.toNatClampNeg))), (0, .ref (ad 0)), (1, .ref (ad (60 + v)))]) hx hb dX3_produce_33 hl (by decide) rfl (fun ls hl => ?_)
  refine lv_aload_n hx hb dX3_produce_35 rfl (lv_at hl 2 rfl) ?_
  refine lv_iload hx hb dX3_produce_36 (lv_at hl 0 rfl) ?_
  refine lv_aload_n hx hb dX3_produce_38 rfl (lv_at hl 4 rfl) ?_
  refine z_giN (D := (dC, dI)) (cl := vwCl) (C := RX7) (T := TX7) (N := 9) (ci := 7) (k := 2) hx hb hts hinX7 hown hK hH (zk_v h_v) (by decide) rfl (by decide) rfl (hN (.fieldLinkNest RX3 143 "Steamfield$Well" "valve" "I" "Steamfield") (by decide +kernel)) (fun _ h9 => h9) dX3_produce_39 ?_
  refine lv_topi (fun x9 ex9 => ?_)
  refine lv_imul hx hb dX3_produce_42 ?_
  refine lv_topi (fun x10 ex10 => ?_)
  refine lv_bipush (v := 20) hx hb dX3_produce_43 (by decide) ?_
  refine lv_idiv hx hb dX3_produce_45 (by decide) ?_
  refine lv_topi (fun x11 ex11 => ?_)
  refine lv_aload_n hx hb dX3_produce_46 rfl (lv_at hl 3 rfl) ?_
  refine z_gr (D := (dC, dI)) (cl := vwCl) (C := RX3) (T := TX3) (N := 15) (ci := 3) (k := 9) hx hb hts hinX3 hown hK hH zk_0 (by decide) rfl (by decide) rfl (zr_0 (k := 9) (by decide)) (hts (.fieldLink RX3 63 "Steamfield$Land" "load" "LSteamfield$Water;") (by decide +kernel)) (fun _ h9 => h9) dX3_produce_47 ?_
  refine z_cVv (D := (dC, dI)) (cl := vwCl) (tys := zt ca) (nw := zw_nest) (C := RX0) (As := [.int x11, .ref (ad 10)]) (rest := []) ⟨hx, hb, hml, hown, hts⟩ (m_X0_take l dC dI ca ad hI M x1.toNatClampNeg (z_ix.lt hx1) x11 10 zk_10) (cwV 2 hts gX3_produce_X0_take rfl rfl rfl (by decide +kernel) ⟨Nat.le_of_ble_eq_true rfl, Nat.le_of_ble_eq_true rfl⟩) (z_recv (ci := 0) (i := (20 + x1.toNatClampNeg)) hK hH (zk_b (z_ix.lt hx1)) (by decide) rfl) hH hK hN zw_nest_ok rfl hl.1 rfl (Nat.le_of_ble_eq_true rfl) dX3_produce_50 ⟨Nat.le_refl _, Nat.le_refl _⟩ hS (fun _ h => h) (fun H locs hB1 oq1 hz1 hS => ?_)
  have hH := hB1
  obtain ⟨M12, hM12⟩ : ∃ z : zM, z = fX0_take M x1.toNatClampNeg x11 10 := ⟨_, rfl⟩
  have hH : z_H (dC, dI) vwCl zf ca zd ad M12 H := by rw [hM12]; exact hH
  have hFx : z_Fx M M12 := hFx.tr (by rw [hM12]; exact (fx_X0_take M x1.toNatClampNeg (z_ix.lt hx1) x11 10 zk_10))
  have hOk : z_Ok M12 := hOk0.fx hFx
  refine lv_aload_n hx hb dX3_produce_53 rfl (lv_at hl 3 rfl) ?_
  refine z_gr (D := (dC, dI)) (cl := vwCl) (C := RX3) (T := TX3) (N := 15) (ci := 3) (k := 9) hx hb hts hinX3 hown hK hH zk_0 (by decide) rfl (by decide) rfl (zr_0 (k := 9) (by decide)) (hts (.fieldLink RX3 63 "Steamfield$Land" "load" "LSteamfield$Water;") (by decide +kernel)) (fun _ h9 => h9) dX3_produce_54 ?_
  refine z_giN (D := (dC, dI)) (cl := vwCl) (C := RX6) (T := TX6) (N := 4) (ci := 6) (k := 0) hx hb hts hinX6 hown hK hH zk_10 (by decide) rfl (by decide) rfl (hN (.fieldLinkNest RX3 204 "Steamfield$Water" "mass" "I" "Steamfield") (by decide +kernel)) (fun _ h9 => h9) dX3_produce_57 ?_
  refine lv_topi (fun x13 ex13 => ?_)
  refine lv_iload_n hx hb dX3_produce_60 rfl (lv_at hl 1 rfl) ?_
  refine lv_bipush (v := 100) hx hb dX3_produce_61 (by decide) ?_
  refine lv_isub hx hb dX3_produce_63 ?_
  refine lv_topi (fun x14 ex14 => ?_)
  refine lv_iconst (v := 0) hx hb dX3_produce_64 (by decide) ?_
  refine va_mmax hx hb (hml.trans hl.1.symm) hown (hts (.methodLink RX3 226 Lib.Math.max.name) (by decide +kernel)) (hts (.static Lib.Math.max.name) (by decide +kernel)) (hts (.initialized "java/lang/Math") (by decide +kernel)) (hts (.code Lib.Math.max.name Lib.Math.max.code 2 (some .int)) (by decide +kernel)) (Nat.le_of_ble_eq_true rfl) (Nat.le_of_ble_eq_true rfl) (Nat.le_refl _) (Nat.le_refl _) dX3_produce_65 ?_
  refine lv_topi (fun x15 ex15 => ?_)
  refine lv_imul hx hb dX3_produce_68 ?_
  refine lv_topi (fun x16 ex16 => ?_)
  refine lv_sipush (v := 400) hx hb dX3_produce_69 (by decide) ?_
  refine lv_idiv hx hb dX3_produce_72 (by decide) ?_
  refine lv_topi (fun x17 ex17 => ?_)
  refine lv_aload_n hx hb dX3_produce_73 rfl (lv_at hl 3 rfl) ?_
  refine z_gr (D := (dC, dI)) (cl := vwCl) (C := RX3) (T := TX3) (N := 15) (ci := 3) (k := 9) hx hb hts hinX3 hown hK hH zk_0 (by decide) rfl (by decide) rfl (zr_0 (k := 9) (by decide)) (hts (.fieldLink RX3 63 "Steamfield$Land" "load" "LSteamfield$Water;") (by decide +kernel)) (fun _ h9 => h9) dX3_produce_74 ?_
  refine z_giN (D := (dC, dI)) (cl := vwCl) (C := RX6) (T := TX6) (N := 4) (ci := 6) (k := 0) hx hb hts hinX6 hown hK hH zk_10 (by decide) rfl (by decide) rfl (hN (.fieldLinkNest RX3 204 "Steamfield$Water" "mass" "I" "Steamfield") (by decide +kernel)) (fun _ h9 => h9) dX3_produce_77 ?_
  refine lv_topi (fun x18 ex18 => ?_)
  refine va_mmin hx hb (hml.trans hl.1.symm) hown (hts (.methodLink RX3 216 Lib.Math.min.name) (by decide +kernel)) (hts (.static Lib.Math.min.name) (by decide +kernel)) (hts (.initialized "java/lang/Math") (by decide +kernel)) (hts (.code Lib.Math.min.name Lib.Math.min.code 2 (some .int)) (by decide +kernel)) (Nat.le_of_ble_eq_true rfl) (Nat.le_of_ble_eq_true rfl) (Nat.le_refl _) (Nat.le_refl _) dX3_produce_80 ?_
  refine lv_topi (fun x19 ex19 => ?_)
  refine lv_istore (lv' := [(5, .int x19), (4, .int x8), (3, .int x2), (2, .ref (ad (20 + x1.toNatClampNeg))), (0, .ref (ad 0)), (1, .ref (ad (60 + v)))]) hx hb dX3_produce_83 hl (by decide) rfl (fun ls hl => ?_)
  refine lv_aload_n hx hb dX3_produce_85 rfl (lv_at hl 4 rfl) ?_
  refine z_gr (D := (dC, dI)) (cl := vwCl) (C := RX3) (T := TX3) (N := 15) (ci := 3) (k := 9) hx hb hts hinX3 hown hK hH zk_0 (by decide) rfl (by decide) rfl (zr_0 (k := 9) (by decide)) (hts (.fieldLink RX3 63 "Steamfield$Land" "load" "LSteamfield$Water;") (by decide +kernel)) (fun _ h9 => h9) dX3_produce_86 ?_
  refine z_giN (D := (dC, dI)) (cl := vwCl) (C := RX6) (T := TX6) (N := 4) (ci := 6) (k := 0) hx hb hts hinX6 hown hK hH zk_10 (by decide) rfl (by decide) rfl (hN (.fieldLinkNest RX3 204 "Steamfield$Water" "mass" "I" "Steamfield") (by decide +kernel)) (fun _ h9 => h9) dX3_produce_89 ?_
  refine lv_topi (fun x20 ex20 => ?_)
  refine lv_iload hx hb dX3_produce_92 (lv_at hl 0 rfl) ?_
  refine lv_isub hx hb dX3_produce_94 ?_
  refine lv_topi (fun x21 ex21 => ?_)
  refine lv_istore (lv' := [(6, .int x21), (5, .int x19), (4, .int x8), (3, .int x2), (2, .ref (ad (20 + x1.toNatClampNeg))), (0, .ref (ad 0)), (1, .ref (ad (60 + v)))]) hx hb dX3_produce_95 hl (by decide) rfl (fun ls hl => ?_)
  refine lv_aload_n hx hb dX3_produce_97 rfl (lv_at hl 6 rfl) ?_
  refine lv_aload_n hx hb dX3_produce_98 rfl (lv_at hl 5 rfl) ?_
  refine z_gr (D := (dC, dI)) (cl := vwCl) (C := RX3) (T := TX3) (N := 15) (ci := 3) (k := 9) hx hb hts hinX3 hown hK hH zk_0 (by decide) rfl (by decide) rfl (zr_0 (k := 9) (by decide)) (hts (.fieldLink RX3 63 "Steamfield$Land" "load" "LSteamfield$Water;") (by decide +kernel)) (fun _ h9 => h9) dX3_produce_99 ?_
  refine lv_iload hx hb dX3_produce_102 (lv_at hl 1 rfl) ?_
  refine z_cVv (D := (dC, dI)) (cl := vwCl) (tys := zt ca) (nw := zw_nest) (C := RX7) (As := [.ref (ad 10), .int x19]) (rest := []) ⟨hx, hb, hml, hown, hts⟩ (m_X7_note l dC dI ca ad hI M12 v h_v 10 zk_10 x19) (cwV 2 hts gX3_produce_X7_note rfl rfl rfl (by decide +kernel) ⟨Nat.le_of_ble_eq_true rfl, Nat.le_of_ble_eq_true rfl⟩) (z_recv (ci := 7) (i := (60 + v)) hK hH (zk_v h_v) (by decide) rfl) hH hK hN zw_nest_ok rfl hl.1 rfl (Nat.le_of_ble_eq_true rfl) dX3_produce_104 ⟨Nat.le_refl _, Nat.le_refl _⟩ hS (fun _ h => h) (fun H locs hB1 oq1 hz1 hS => ?_)
  have hH := hB1
  obtain ⟨M22, hM22⟩ : ∃ z : zM, z = fX7_note M12 v 10 x19 := ⟨_, rfl⟩
  have hH : z_H (dC, dI) vwCl zf ca zd ad M22 H := by rw [hM22]; exact hH
  have hFx : z_Fx M M22 := hFx.tr (by rw [hM22]; exact (fx_X7_note M12 v h_v 10 zk_10 x19))
  have hOk : z_Ok M22 := hOk0.fx hFx
  refine lv_bipush (v := 10) hx hb dX3_produce_107 (by decide) ?_
  refine lv_aload_n hx hb dX3_produce_109 rfl (lv_at hl 5 rfl) ?_
  refine z_gr (D := (dC, dI)) (cl := vwCl) (C := RX3) (T := TX3) (N := 15) (ci := 3) (k := 9) hx hb hts hinX3 hown hK hH zk_0 (by decide) rfl (by decide) rfl (zr_0 (k := 9) (by decide)) (hts (.fieldLink RX3 63 "Steamfield$Land" "load" "LSteamfield$Water;") (by decide +kernel)) (fun _ h9 => h9) dX3_produce_110 ?_
  refine z_giN (D := (dC, dI)) (cl := vwCl) (C := RX6) (T := TX6) (N := 4) (ci := 6) (k := 2) hx hb hts hinX6 hown hK hH zk_10 (by decide) rfl (by decide) rfl (hN (.fieldLinkNest RX3 233 "Steamfield$Water" "salt" "I" "Steamfield") (by decide +kernel)) (fun _ h9 => h9) dX3_produce_113 ?_
  refine lv_topi (fun x23 ex23 => ?_)
  refine lv_imul hx hb dX3_produce_116 ?_
  refine lv_topi (fun x24 ex24 => ?_)
  refine lv_bipush (v := 30) hx hb dX3_produce_117 (by decide) ?_
  refine lv_iload hx hb dX3_produce_119 (lv_at hl 0 rfl) ?_
  refine lv_imul hx hb dX3_produce_121 ?_
  refine lv_topi (fun x25 ex25 => ?_)
  have J28 : ∀ M27 : zM, M27 = (if x24 ≤ x25 then M22 else (let M27 : zM := fX7_growCrust M22 v; M27)) → ∀ ls : Array Slot, lv_has ls 7 [(0, .ref (ad 0)), (1, .ref (ad (60 + v))), (2, .ref (ad (20 + x1.toNatClampNeg))), (3, .int x2), (4, .int x8), (5, .int x19), (6, .int x21)] → ∀ (H : Heap) (locs : List Loc), zW dC dI ca ad M27 H → z_Fx M M27 → va_S (z_A zd ad) s.heap H locs → W p l e (headSpec wsX3_produce ({ frames := 2, cells := 0, slots := 0, locals := 45 })).room s m ([.ref (ad 0), .ref (ad (60 + v))] : List Value).toArray below meth c H locs 0 0 (MQ below (z_Qi (rX3_produce M v) (fun H => zW dC dI ca ad (fX3_produce M v) H ∧ z_Fx M (fX3_produce M v)) (z_A zd ad)) ([.ref (ad 0), .ref (ad (60 + v))] : List Value).toArray s 0 0 (z_A zd ad)) (F0 m 129 ls []) := by
    intro M27 hM27 ls hl H locs hH hFx hS
    have hOk : z_Ok M27 := hOk0.fx hFx
    refine lv_aload_n hx hb dX3_produce_129 rfl (lv_at hl 0 rfl) ?_
    refine z_gr (D := (dC, dI)) (cl := vwCl) (C := RX3) (T := TX3) (N := 15) (ci := 3) (k := 9) hx hb hts hinX3 hown hK hH zk_0 (by decide) rfl (by decide) rfl (zr_0 (k := 9) (by decide)) (hts (.fieldLink RX3 63 "Steamfield$Land" "load" "LSteamfield$Water;") (by decide +kernel)) (fun _ h9 => h9) dX3_produce_130 ?_
    refine lv_iload hx hb dX3_produce_133 (lv_at hl 6 rfl) ?_
    refine zp_iN (D := (dC, dI)) (cl := vwCl) (C := RX6) (T := TX6) (N := 4) (ci := 6) (k := 0) (ty := .int) hx hb hts hinX6 tyX6 tyX6_ok nmX6 hown hK hH hI hS (fun _ h => h) zk_10 (by decide) rfl (by decide) rfl (hN (.fieldLinkNest RX3 204 "Steamfield$Water" "mass" "I" "Steamfield") (by decide +kernel)) (fun _ h9 => h9) rfl (by decide +kernel) rfl rfl dX3_produce_135 (fun H locs hH oq hS => ?_)
    obtain ⟨M29, hM29⟩ : ∃ z : zM, z = zu M27 10 0 x21 := ⟨_, rfl⟩
    rw [← hM29] at hH
    have hFx : z_Fx M M29 := hFx.tr (by rw [hM29]; exact (z_Fx.u zk_10 rfl))
    have hOk : z_Ok M29 := hOk0.fx hFx
    refine lv_aload_n hx hb dX3_produce_138 rfl (lv_at hl 0 rfl) ?_
    refine z_gr (D := (dC, dI)) (cl := vwCl) (C := RX3) (T := TX3) (N := 15) (ci := 3) (k := 9) hx hb hts hinX3 hown hK hH zk_0 (by decide) rfl (by decide) rfl (zr_0 (k := 9) (by decide)) (hts (.fieldLink RX3 63 "Steamfield$Land" "load" "LSteamfield$Water;") (by decide +kernel)) (fun _ h9 => h9) dX3_produce_139 ?_
    refine lv_iload hx hb dX3_produce_142 (lv_at hl 6 rfl) ?_
    refine lv_iload_n hx hb dX3_produce_144 rfl (lv_at hl 3 rfl) ?_
    refine lv_bipush (v := 100) hx hb dX3_produce_145 (by decide) ?_
    refine va_mmin hx hb (hml.trans hl.1.symm) hown (hts (.methodLink RX3 216 Lib.Math.min.name) (by decide +kernel)) (hts (.static Lib.Math.min.name) (by decide +kernel)) (hts (.initialized "java/lang/Math") (by decide +kernel)) (hts (.code Lib.Math.min.name Lib.Math.min.code 2 (some .int)) (by decide +kernel)) (Nat.le_of_ble_eq_true rfl) (Nat.le_of_ble_eq_true rfl) (Nat.le_refl _) (Nat.le_refl _) dX3_produce_147 ?_
    refine lv_topi (fun x30 ex30 => ?_)
    refine lv_imul hx hb dX3_produce_150 ?_
    refine lv_topi (fun x31 ex31 => ?_)
    refine zp_iN (D := (dC, dI)) (cl := vwCl) (C := RX6) (T := TX6) (N := 4) (ci := 6) (k := 1) (ty := .int) hx hb hts hinX6 tyX6 tyX6_ok nmX6 hown hK hH hI hS (fun _ h => h) zk_10 (by decide) rfl (by decide) rfl (hN (.fieldLinkNest RX3 213 "Steamfield$Water" "heat" "I" "Steamfield") (by decide +kernel)) (fun _ h9 => h9) rfl (by decide +kernel) rfl rfl dX3_produce_151 (fun H locs hH oq hS => ?_)
    obtain ⟨M32, hM32⟩ : ∃ z : zM, z = zu M29 10 1 x31 := ⟨_, rfl⟩
    rw [← hM32] at hH
    have hFx : z_Fx M M32 := hFx.tr (by rw [hM32]; exact (z_Fx.u zk_10 rfl))
    have hOk : z_Ok M32 := hOk0.fx hFx
    refine lv_aload_n hx hb dX3_produce_154 rfl (lv_at hl 0 rfl) ?_
    refine z_gr (D := (dC, dI)) (cl := vwCl) (C := RX3) (T := TX3) (N := 15) (ci := 3) (k := 4) hx hb hts hinX3 hown hK hH zk_0 (by decide) rfl (by decide) rfl (zr_0 (k := 4) (by decide)) (hts (.fieldLink RX3 38 "Steamfield$Land" "pond" "LSteamfield$Water;") (by decide +kernel)) (fun _ h9 => h9) dX3_produce_155 ?_
    refine lv_aload_n hx hb dX3_produce_158 rfl (lv_at hl 0 rfl) ?_
    refine z_gr (D := (dC, dI)) (cl := vwCl) (C := RX3) (T := TX3) (N := 15) (ci := 3) (k := 9) hx hb hts hinX3 hown hK hH zk_0 (by decide) rfl (by decide) rfl (zr_0 (k := 9) (by decide)) (hts (.fieldLink RX3 63 "Steamfield$Land" "load" "LSteamfield$Water;") (by decide +kernel)) (fun _ h9 => h9) dX3_produce_159 ?_
    refine z_cVv (D := (dC, dI)) (cl := vwCl) (tys := zt ca) (nw := zw_nest) (C := RX6) (As := [.ref (ad 10)]) (rest := []) ⟨hx, hb, hml, hown, hts⟩ (m_X6_add l dC dI ca ad hI M32 5 zk_5 10 zk_10) (cwV 1 hts gX3_produce_X6_add rfl rfl rfl (by decide +kernel) ⟨Nat.le_of_ble_eq_true rfl, Nat.le_of_ble_eq_true rfl⟩) (z_recv (ci := 6) (i := 5) hK hH zk_5 (by decide) rfl) hH hK hN zw_nest_ok rfl hl.1 rfl (Nat.le_of_ble_eq_true rfl) dX3_produce_162 ⟨Nat.le_refl _, Nat.le_refl _⟩ hS (fun _ h => h) (fun H locs hB1 oq1 hz1 hS => ?_)
    have hH := hB1
    obtain ⟨M33, hM33⟩ : ∃ z : zM, z = fX6_add M32 5 10 := ⟨_, rfl⟩
    have hH : z_H (dC, dI) vwCl zf ca zd ad M33 H := by rw [hM33]; exact hH
    have hFx : z_Fx M M33 := hFx.tr (by rw [hM33]; exact (fx_X6_add M32 5 zk_5 10 zk_10))
    have hOk : z_Ok M33 := hOk0.fx hFx
    refine lv_iload hx hb dX3_produce_165 (lv_at hl 5 rfl) ?_
    have hF0 : zW dC dI ca ad (fX3_produce M v) H := by
      have e9 : M33 = (fX3_produce M v) := by subst hM33; subst hM32; subst ex31; subst ex30; subst hM29; subst hM27; subst ex25; subst ex24; subst ex23; subst hM22; subst ex21; subst ex20; subst ex19; subst ex18; subst ex17; subst ex16; subst ex15; subst ex14; subst ex13; subst hM12; subst ex11; subst ex10; subst ex9; subst ex8; subst ex7; subst ex6; subst ex5; subst ex4; subst ex3; subst ex2; subst ex1; rfl
      rw [← e9]; exact hH
    have hFF : z_Fx M (fX3_produce M v) := by
      have e9 : M33 = (fX3_produce M v) := by subst hM33; subst hM32; subst ex31; subst ex30; subst hM29; subst hM27; subst ex25; subst ex24; subst ex23; subst hM22; subst ex21; subst ex20; subst ex19; subst ex18; subst ex17; subst ex16; subst ex15; subst ex14; subst ex13; subst hM12; subst ex11; subst ex10; subst ex9; subst ex8; subst ex7; subst ex6; subst ex5; subst ex4; subst ex3; subst ex2; subst ex1; rfl
      rw [← e9]; exact hFx
    have hR : x19 = rX3_produce M v := by subst hM33; subst hM32; subst ex31; subst ex30; subst hM29; subst hM27; subst ex25; subst ex24; subst ex23; subst hM22; subst ex21; subst ex20; subst ex19; subst ex18; subst ex17; subst ex16; subst ex15; subst ex14; subst ex13; subst hM12; subst ex11; subst ex10; subst ex9; subst ex8; subst ex7; subst ex6; subst ex5; subst ex4; subst ex3; subst ex2; subst ex1; rfl
    exact W.iret (v := x19) hx hb hr (fun t ht hW => ⟨⟨x19, (), rfl, hR, z_to (B := fun H => zW dC dI ca ad (fX3_produce M v) H ∧ z_Fx M (fX3_produce M v)) ht ⟨hF0, hFF⟩⟩, hS.F ht⟩) hS.2.2 dX3_produce_167
  refine lv_icmp_le (tgt := 129) hx hb dX3_produce_122 (by decide) (fun c26 => ?_) (fun c26 => ?_)
  · exact J28 _ (by exact (if_pos c26).symm) ls (lv_sub hl [5, 6, 4, 3, 2, 1, 0] rfl) _ _ hH hFx hS
  · refine lv_aload_n hx hb dX3_produce_125 rfl (lv_at hl 6 rfl) ?_
    refine z_cVv (D := (dC, dI)) (cl := vwCl) (tys := zt ca) (nw := zw_nest) (C := RX7) (As := []) (rest := []) ⟨hx, hb, hml, hown, hts⟩ (m_X7_growCrust l dC dI ca ad hI M22 v h_v) (cwV 0 hts gX3_produce_X7_growCrust rfl rfl rfl (by decide +kernel) ⟨Nat.le_of_ble_eq_true rfl, Nat.le_of_ble_eq_true rfl⟩) (z_recv (ci := 7) (i := (60 + v)) hK hH (zk_v h_v) (by decide) rfl) hH hK hN zw_nest_ok rfl hl.1 rfl (Nat.le_of_ble_eq_true rfl) dX3_produce_126 ⟨Nat.le_refl _, Nat.le_refl _⟩ hS (fun _ h => h) (fun H locs hB1 oq1 hz1 hS => ?_)
    have hH := hB1
    obtain ⟨M27, hM27⟩ : ∃ z : zM, z = fX7_growCrust M22 v := ⟨_, rfl⟩
    have hH : z_H (dC, dI) vwCl zf ca zd ad M27 H := by rw [hM27]; exact hH
    have hFx : z_Fx M M27 := hFx.tr (by rw [hM27]; exact (fx_X7_growCrust M22 v h_v))
    have hOk : z_Ok M27 := hOk0.fx hFx
    exact J28 _ (by subst hM27; exact (if_neg c26).symm) ls (lv_sub hl [5, 6, 4, 3, 2, 1, 0] rfl) _ _ hH hFx hS

def fX3_inject (M : zM) (v : Nat) (a0 : Int32) : zM :=
  let x1 : Int32 := M (60 + v) 2
  let x2 : Int32 := 4 * x1
  let x4 : Int32 := if a0 = 0 then x2 else (let x5 : Int32 := if ¬ a0 = 1 then 0 else (let x5 : Int32 := x2 / 2; x5); x5)
  let x6 : Int32 := M 5 0
  let x7 : Int32 := if x6 < x4 then x6 else x4
  let M8 : zM := fX3_drain M x7
  let x9 : Int32 := M8 (60 + v) 0
  let x10 : Int32 := rX0_pressure M8 x9.toNatClampNeg
  let M11 : zM := fX6_add M8 (30 + x9.toNatClampNeg) 10
  let M12 : zM := fX7_note M11 v 10 0
  let x13 : Int32 := rX0_pressure M12 x9.toNatClampNeg
  let x14 : Int32 := x13 - x10
  let x16 : Int32 := if x14 < 5 then 0 else x14
  M12
def rX3_inject (M : zM) (v : Nat) (a0 : Int32) : Int32 :=
  let x1 : Int32 := M (60 + v) 2
  let x2 : Int32 := 4 * x1
  let x4 : Int32 := if a0 = 0 then x2 else (let x5 : Int32 := if ¬ a0 = 1 then 0 else (let x5 : Int32 := x2 / 2; x5); x5)
  let x6 : Int32 := M 5 0
  let x7 : Int32 := if x6 < x4 then x6 else x4
  let M8 : zM := fX3_drain M x7
  let x9 : Int32 := M8 (60 + v) 0
  let x10 : Int32 := rX0_pressure M8 x9.toNatClampNeg
  let M11 : zM := fX6_add M8 (30 + x9.toNatClampNeg) 10
  let M12 : zM := fX7_note M11 v 10 0
  let x13 : Int32 := rX0_pressure M12 x9.toNatClampNeg
  let x14 : Int32 := x13 - x10
  let x16 : Int32 := if x14 < 5 then 0 else x14
  x16
set_option maxHeartbeats 4000000 in
set_option maxRecDepth 100000 in
theorem m_X3_inject (l : Launch) (dC : Nat → ClassId) (dI : Nat → Nat → Nat) (ca : Nat → ClassId) (ad : Nat → Nat) (hI : z_I zd ad) (M : zM) (v : Nat) (h_v : v < 6) (a0 : Int32) (hOk0 : z_Ok M) : Met l yX3_inject wsX3_inject ({ frames := 2, cells := 0, slots := 0, locals := 43 }) (z_Pc (dC, dI) vwCl (zt ca) zw_nest [.ref (ad 0), .ref (ad (60 + v)), .int a0] (fun H => zW dC dI ca ad M H)) (z_Qi (rX3_inject M v a0) (fun H => zW dC dI ca ad (fX3_inject M v a0) H ∧ z_Fx M (fX3_inject M v a0)) (z_A zd ad)) 0 0 (z_A zd ad) := by
  refine Met.ofW (cc := cX3_inject) (maxL := 7) (ret := (some .int)) (by decide) rfl ?_
  intro p e s m args below meth c s₁ B9 hml hv
  obtain ⟨rfl, hH, hK, hN⟩ := hv
  have hx := B9.exec
  have hb := B9.bytes
  have hr := B9.returns
  have hts := atoms_spec (ws := wsX3_inject) B9.pre
  have hown : s.vm.findClass RX3 = some m.cls := findClass_of_methodNamed B9.named
  have hlocks := B9.notSynchronized
  have hS : va_S (z_A zd ad) s.heap s.heap [] := va_S.rf
  have hOk := hOk0
  have hFx : z_Fx M M := z_Fx.rf
  have hH : zW dC dI ca ad M s.heap := hH
  have hinX0 : ∀ w ∈ u_ws RX0 TX0 3, w ∈ wsX3_inject := by decide +kernel
  have hinX3 : ∀ w ∈ u_ws RX3 TX3 15, w ∈ wsX3_inject := by decide +kernel
  have hinX6 : ∀ w ∈ u_ws RX6 TX6 4, w ∈ wsX3_inject := by decide +kernel
  have hinX7 : ∀ w ∈ u_ws RX7 TX7 9, w ∈ wsX3_inject := by decide +kernel
  have hl := lv_entry ([.ref (ad 0), .ref (ad (60 + v)), .int a0]) (n := 7) (Nat.le_of_ble_eq_true rfl)
  rw [lg_entry_eq]
  generalize (lg_sl ([.ref (ad 0), .ref (ad (60 + v)), .int a0]) ++ List.replicate (7 - (lg_sl ([.ref (ad 0), .ref (ad (60 + v)), .int a0])).length) Slot.unset).toArray = ls at hl ⊢
  have hl : lv_has ls 7 [(0, .ref (ad 0)), (1, .ref (ad (60 + v))), (2, .int a0)] := hl
  refine lv_iconst (v := 4) hx hb dX3_inject_0 (by decide) ?_
  refine lv_aload_n hx hb dX3_inject_1 rfl (lv_at hl 1 rfl) ?_
  refine z_giN (D := (dC, dI)) (cl := vwCl) (C := RX7) (T := TX7) (N := 9) (ci := 7) (k := 2) hx hb hts hinX7 hown hK hH (zk_v h_v) (by decide) rfl (by decide) rfl (hN (.fieldLinkNest RX3 143 "Steamfield$Well" "valve" "I" "Steamfield") (by decide +kernel)) (fun _ h9 => h9) dX3_inject_2 ?_
  refine lv_topi (fun x1 ex1 => ?_)
  refine lv_imul hx hb dX3_inject_5 ?_
  refine lv_topi (fun x2 ex2 => ?_)
  refine lv_istore_n (lv' := [(3, .int x2), (0, .ref (ad 0)), (1, .ref (ad (60 + v))), (2, .int a0)]) hx hb dX3_inject_6 rfl hl (by decide) rfl (fun ls hl => ?_)
  refine lv_iload_n hx hb dX3_inject_7 rfl (lv_at hl 3 rfl) ?_
  have J5 : ∀ x4 : Int32, x4 = (if a0 = 0 then x2 else (let x5 : Int32 := if ¬ a0 = 1 then 0 else (let x5 : Int32 := x2 / 2; x5); x5)) → ∀ ls : Array Slot, lv_has ls 7 [(0, .ref (ad 0)), (1, .ref (ad (60 + v))), (2, .int a0), (3, .int x4)] → W p l e (headSpec wsX3_inject ({ frames := 2, cells := 0, slots := 0, locals := 43 })).room s m ([.ref (ad 0), .ref (ad (60 + v)), .int a0] : List Value).toArray below meth c s.heap [] 0 0 (MQ below (z_Qi (rX3_inject M v a0) (fun H => zW dC dI ca ad (fX3_inject M v a0) H ∧ z_Fx M (fX3_inject M v a0)) (z_A zd ad)) ([.ref (ad 0), .ref (ad (60 + v)), .int a0] : List Value).toArray s 0 0 (z_A zd ad)) (F0 m 24 ls []) := by
    intro x4 ex4 ls hl
    refine lv_aload_n hx hb dX3_inject_24 rfl (lv_at hl 0 rfl) ?_
    refine lv_iload_n hx hb dX3_inject_25 rfl (lv_at hl 3 rfl) ?_
    refine lv_aload_n hx hb dX3_inject_26 rfl (lv_at hl 0 rfl) ?_
    refine z_gr (D := (dC, dI)) (cl := vwCl) (C := RX3) (T := TX3) (N := 15) (ci := 3) (k := 4) hx hb hts hinX3 hown hK hH zk_0 (by decide) rfl (by decide) rfl (zr_0 (k := 4) (by decide)) (hts (.fieldLink RX3 38 "Steamfield$Land" "pond" "LSteamfield$Water;") (by decide +kernel)) (fun _ h9 => h9) dX3_inject_27 ?_
    refine z_giN (D := (dC, dI)) (cl := vwCl) (C := RX6) (T := TX6) (N := 4) (ci := 6) (k := 0) hx hb hts hinX6 hown hK hH zk_5 (by decide) rfl (by decide) rfl (hN (.fieldLinkNest RX3 204 "Steamfield$Water" "mass" "I" "Steamfield") (by decide +kernel)) (fun _ h9 => h9) dX3_inject_30 ?_
    refine lv_topi (fun x6 ex6 => ?_)
    refine va_mmin hx hb (hml.trans hl.1.symm) hown (hts (.methodLink RX3 216 Lib.Math.min.name) (by decide +kernel)) (hts (.static Lib.Math.min.name) (by decide +kernel)) (hts (.initialized "java/lang/Math") (by decide +kernel)) (hts (.code Lib.Math.min.name Lib.Math.min.code 2 (some .int)) (by decide +kernel)) (Nat.le_of_ble_eq_true rfl) (Nat.le_of_ble_eq_true rfl) (Nat.le_refl _) (Nat.le_refl _) dX3_inject_33 ?_
    refine lv_topi (fun x7 ex7 => ?_)
    refine z_cVv (D := (dC, dI)) (cl := vwCl) (tys := zt ca) (nw := zw_nest) (C := RX3) (As := [.int x7]) (rest := []) ⟨hx, hb, hml, hown, hts⟩ (m_X3_drain l dC dI ca ad hI M x7 hOk) (cwV 1 hts gX3_inject_X3_drain rfl rfl rfl (by decide +kernel) ⟨Nat.le_of_ble_eq_true rfl, Nat.le_of_ble_eq_true rfl⟩) (z_recv (ci := 3) (i := 0) hK hH zk_0 (by decide) rfl) hH hK hN zw_nest_ok rfl hl.1 rfl (Nat.le_of_ble_eq_true rfl) dX3_inject_36 ⟨Nat.le_refl _, Nat.le_refl _⟩ hS (fun _ h => h) (fun H locs hB1 oq1 hz1 hS => ?_)
    obtain ⟨hH, hFc⟩ := hB1
    obtain ⟨M8, hM8⟩ : ∃ z : zM, z = fX3_drain M x7 := ⟨_, rfl⟩
    have hH : z_H (dC, dI) vwCl zf ca zd ad M8 H := by rw [hM8]; exact hH
    have hFx : z_Fx M M8 := hFx.tr (by rw [hM8]; exact hFc)
    have hOk : z_Ok M8 := hOk0.fx hFx
    refine lv_aload_n hx hb dX3_inject_39 rfl (lv_at hl 0 rfl) ?_
    refine z_gr (D := (dC, dI)) (cl := vwCl) (C := RX3) (T := TX3) (N := 15) (ci := 3) (k := 0) hx hb hts hinX3 hown hK hH zk_0 (by decide) rfl (by decide) rfl (zr_0 (k := 0) (by decide)) (hts (.fieldLink RX3 11 "Steamfield$Land" "blocks" "[LSteamfield$Block;") (by decide +kernel)) (fun _ h9 => h9) dX3_inject_40 ?_
    refine lv_aload_n hx hb dX3_inject_43 rfl (lv_at hl 1 rfl) ?_
    refine z_giN (D := (dC, dI)) (cl := vwCl) (C := RX7) (T := TX7) (N := 9) (ci := 7) (k := 0) hx hb hts hinX7 hown hK hH (zk_v h_v) (by decide) rfl (by decide) rfl (hN (.fieldLinkNest RX3 220 "Steamfield$Well" "block" "I" "Steamfield") (by decide +kernel)) (fun _ h9 => h9) dX3_inject_44 ?_
    refine lv_topi (fun x9 ex9 => ?_)
    have hx9 : z_ix x9 8 := by rw [ex9]; exact z_Ok.wblock hOk h_v
    refine z_aq (t0 := 1) (D := (dC, dI)) (cl := vwCl) (tys := zt ca) hx hb hK hH zk_1 (by decide) (by decide) rfl (show vp_in x9 8 from (z_ix.in hx9)) (show zr 1 (x9 : Int32).toNatClampNeg = some (20 + x9.toNatClampNeg) from zr_1 (z_ix.lt hx9)) dX3_inject_47 ?_
    refine lv_astore (lv' := [(4, .ref (ad (20 + x9.toNatClampNeg))), (0, .ref (ad 0)), (1, .ref (ad (60 + v))), (2, .int a0), (3, .int x4)]) hx hb dX3_inject_48 hl (by decide) rfl (fun ls hl => ?_)
    refine lv_aload hx hb dX3_inject_50 (lv_at hl 0 rfl) ?_
    refine z_cVi (D := (dC, dI)) (cl := vwCl) (tys := zt ca) (nw := zw_nest) (C := RX0) (As := []) (rest := []) ⟨hx, hb, hml, hown, hts⟩ (m_X0_pressure l dC dI ca ad hI M8 x9.toNatClampNeg (z_ix.lt hx9)) (cwV 0 hts gX3_inject_X0_pressure rfl rfl rfl (by decide +kernel) ⟨Nat.le_of_ble_eq_true rfl, Nat.le_of_ble_eq_true rfl⟩) (z_recv (ci := 0) (i := (20 + x9.toNatClampNeg)) hK hH (zk_b (z_ix.lt hx9)) (by decide) rfl) hH hK hN zw_nest_ok rfl hl.1 rfl (Nat.le_of_ble_eq_true rfl) dX3_inject_52 ⟨Nat.le_refl _, Nat.le_refl _⟩ hS (fun _ h => h) (fun H locs hB1 oq1 hz1 hS => ?_)
    have hH := hB1
    refine lv_topi (fun x10 ex10 => ?_)
    refine lv_istore (lv' := [(5, .int x10), (4, .ref (ad (20 + x9.toNatClampNeg))), (0, .ref (ad 0)), (1, .ref (ad (60 + v))), (2, .int a0), (3, .int x4)]) hx hb dX3_inject_55 hl (by decide) rfl (fun ls hl => ?_)
    refine lv_aload hx hb dX3_inject_57 (lv_at hl 1 rfl) ?_
    refine z_grN (D := (dC, dI)) (cl := vwCl) (C := RX0) (T := TX0) (N := 3) (ci := 0) (k := 0) hx hb hts hinX0 hown hK hH (zk_b (z_ix.lt hx9)) (by decide) rfl (by decide) rfl (zr_b (z_ix.lt hx9)) (hN (.fieldLinkNest RX3 123 "Steamfield$Block" "water" "LSteamfield$Water;" "Steamfield") (by decide +kernel)) (fun _ h9 => h9) dX3_inject_59 ?_
    refine lv_aload_n hx hb dX3_inject_62 rfl (lv_at hl 2 rfl) ?_
    refine z_gr (D := (dC, dI)) (cl := vwCl) (C := RX3) (T := TX3) (N := 15) (ci := 3) (k := 9) hx hb hts hinX3 hown hK hH zk_0 (by decide) rfl (by decide) rfl (zr_0 (k := 9) (by decide)) (hts (.fieldLink RX3 63 "Steamfield$Land" "load" "LSteamfield$Water;") (by decide +kernel)) (fun _ h9 => h9) dX3_inject_63 ?_
    refine z_cVv (D := (dC, dI)) (cl := vwCl) (tys := zt ca) (nw := zw_nest) (C := RX6) (As := [.ref (ad 10)]) (rest := []) ⟨hx, hb, hml, hown, hts⟩ (m_X6_add l dC dI ca ad hI M8 (30 + x9.toNatClampNeg) (zk_w (z_ix.lt hx9)) 10 zk_10) (cwV 1 hts gX3_inject_X6_add rfl rfl rfl (by decide +kernel) ⟨Nat.le_of_ble_eq_true rfl, Nat.le_of_ble_eq_true rfl⟩) (z_recv (ci := 6) (i := (30 + x9.toNatClampNeg)) hK hH (zk_w (z_ix.lt hx9)) (by decide) rfl) hH hK hN zw_nest_ok rfl hl.1 rfl (Nat.le_of_ble_eq_true rfl) dX3_inject_66 ⟨Nat.le_refl _, Nat.le_refl _⟩ hS (fun _ h => h) (fun H locs hB1 oq1 hz1 hS => ?_)
    have hH := hB1
    obtain ⟨M11, hM11⟩ : ∃ z : zM, z = fX6_add M8 (30 + x9.toNatClampNeg) 10 := ⟨_, rfl⟩
    have hH : z_H (dC, dI) vwCl zf ca zd ad M11 H := by rw [hM11]; exact hH
    have hFx : z_Fx M M11 := hFx.tr (by rw [hM11]; exact (fx_X6_add M8 (30 + x9.toNatClampNeg) (zk_w (z_ix.lt hx9)) 10 zk_10))
    have hOk : z_Ok M11 := hOk0.fx hFx
    refine lv_aload_n hx hb dX3_inject_69 rfl (lv_at hl 3 rfl) ?_
    refine lv_aload_n hx hb dX3_inject_70 rfl (lv_at hl 2 rfl) ?_
    refine z_gr (D := (dC, dI)) (cl := vwCl) (C := RX3) (T := TX3) (N := 15) (ci := 3) (k := 9) hx hb hts hinX3 hown hK hH zk_0 (by decide) rfl (by decide) rfl (zr_0 (k := 9) (by decide)) (hts (.fieldLink RX3 63 "Steamfield$Land" "load" "LSteamfield$Water;") (by decide +kernel)) (fun _ h9 => h9) dX3_inject_71 ?_
    refine lv_iconst (v := 0) hx hb dX3_inject_74 (by decide) ?_
    refine z_cVv (D := (dC, dI)) (cl := vwCl) (tys := zt ca) (nw := zw_nest) (C := RX7) (As := [.ref (ad 10), .int 0]) (rest := []) ⟨hx, hb, hml, hown, hts⟩ (m_X7_note l dC dI ca ad hI M11 v h_v 10 zk_10 0) (cwV 2 hts gX3_inject_X7_note rfl rfl rfl (by decide +kernel) ⟨Nat.le_of_ble_eq_true rfl, Nat.le_of_ble_eq_true rfl⟩) (z_recv (ci := 7) (i := (60 + v)) hK hH (zk_v h_v) (by decide) rfl) hH hK hN zw_nest_ok rfl hl.1 rfl (Nat.le_of_ble_eq_true rfl) dX3_inject_75 ⟨Nat.le_refl _, Nat.le_refl _⟩ hS (fun _ h => h) (fun H locs hB1 oq1 hz1 hS => ?_)
    have hH := hB1
    obtain ⟨M12, hM12⟩ : ∃ z : zM, z = fX7_note M11 v 10 0 := ⟨_, rfl⟩
    have hH : z_H (dC, dI) vwCl zf ca zd ad M12 H := by rw [hM12]; exact hH
    have hFx : z_Fx M M12 := hFx.tr (by rw [hM12]; exact (fx_X7_note M11 v h_v 10 zk_10 0))
    have hOk : z_Ok M12 := hOk0.fx hFx
    refine lv_aload hx hb dX3_inject_78 (lv_at hl 1 rfl) ?_
    refine z_cVi (D := (dC, dI)) (cl := vwCl) (tys := zt ca) (nw := zw_nest) (C := RX0) (As := []) (rest := []) ⟨hx, hb, hml, hown, hts⟩ (m_X0_pressure l dC dI ca ad hI M12 x9.toNatClampNeg (z_ix.lt hx9)) (cwV 0 hts gX3_inject_X0_pressure rfl rfl rfl (by decide +kernel) ⟨Nat.le_of_ble_eq_true rfl, Nat.le_of_ble_eq_true rfl⟩) (z_recv (ci := 0) (i := (20 + x9.toNatClampNeg)) hK hH (zk_b (z_ix.lt hx9)) (by decide) rfl) hH hK hN zw_nest_ok rfl hl.1 rfl (Nat.le_of_ble_eq_true rfl) dX3_inject_80 ⟨Nat.le_refl _, Nat.le_refl _⟩ hS (fun _ h => h) (fun H locs hB1 oq1 hz1 hS => ?_)
    have hH := hB1
    refine lv_topi (fun x13 ex13 => ?_)
    refine lv_iload hx hb dX3_inject_83 (lv_at hl 0 rfl) ?_
    refine lv_isub hx hb dX3_inject_85 ?_
    refine lv_topi (fun x14 ex14 => ?_)
    refine lv_istore (lv' := [(6, .int x14), (5, .int x10), (4, .ref (ad (20 + x9.toNatClampNeg))), (0, .ref (ad 0)), (1, .ref (ad (60 + v))), (2, .int a0), (3, .int x4)]) hx hb dX3_inject_86 hl (by decide) rfl (fun ls hl => ?_)
    refine lv_iload hx hb dX3_inject_88 (lv_at hl 0 rfl) ?_
    refine lv_iconst (v := 5) hx hb dX3_inject_90 (by decide) ?_
    have J17 : ∀ x16 : Int32, x16 = (if x14 < 5 then 0 else x14) → ∀ ls : Array Slot, lv_has ls 7 [(0, .ref (ad 0)), (1, .ref (ad (60 + v))), (2, .int a0), (3, .int x4), (4, .ref (ad (20 + x9.toNatClampNeg))), (5, .int x10), (6, .int x14)] → W p l e (headSpec wsX3_inject ({ frames := 2, cells := 0, slots := 0, locals := 43 })).room s m ([.ref (ad 0), .ref (ad (60 + v)), .int a0] : List Value).toArray below meth c H locs 0 0 (MQ below (z_Qi (rX3_inject M v a0) (fun H => zW dC dI ca ad (fX3_inject M v a0) H ∧ z_Fx M (fX3_inject M v a0)) (z_A zd ad)) ([.ref (ad 0), .ref (ad (60 + v)), .int a0] : List Value).toArray s 0 0 (z_A zd ad)) (F0 m 100 ls [.int x16]) := by
      intro x16 ex16 ls hl
      have hF0 : zW dC dI ca ad (fX3_inject M v a0) H := by
        have e9 : M12 = (fX3_inject M v a0) := by subst ex16; subst ex14; subst ex13; subst hM12; subst hM11; subst ex10; subst ex9; subst hM8; subst ex7; subst ex6; subst ex4; subst ex2; subst ex1; rfl
        rw [← e9]; exact hH
      have hFF : z_Fx M (fX3_inject M v a0) := by
        have e9 : M12 = (fX3_inject M v a0) := by subst ex16; subst ex14; subst ex13; subst hM12; subst hM11; subst ex10; subst ex9; subst hM8; subst ex7; subst ex6; subst ex4; subst ex2; subst ex1; rfl
        rw [← e9]; exact hFx
      have hR : x16 = rX3_inject M v a0 := by subst ex16; subst ex14; subst ex13; subst hM12; subst hM11; subst ex10; subst ex9; subst hM8; subst ex7; subst ex6; subst ex4; subst ex2; subst ex1; rfl
      exact W.iret (v := x16) hx hb hr (fun t ht hW => ⟨⟨x16, (), rfl, hR, z_to (B := fun H => zW dC dI ca ad (fX3_inject M v a0) H ∧ z_Fx M (fX3_inject M v a0)) ht ⟨hF0, hFF⟩⟩, hS.F ht⟩) hS.2.2 dX3_inject_100
    refine lv_icmp_lt (tgt := 99) hx hb dX3_inject_91 (by decide) (fun c15 => ?_) (fun c15 => ?_)
    · refine lv_iconst (v := 0) hx hb dX3_inject_99 (by decide) ?_
      exact J17 _ (by exact (if_pos c15).symm) ls (lv_sub hl [3, 4, 5, 6, 2, 1, 0] rfl)
    · refine lv_iload hx hb dX3_inject_94 (lv_at hl 0 rfl) ?_
      refine lv_goto (tgt := 100) hx hb dX3_inject_96 (by decide) ?_
      exact J17 _ (by exact (if_neg c15).symm) ls (lv_sub hl [3, 4, 5, 6, 2, 1, 0] rfl)
  refine lv_if_eq (tgt := 24) hx hb dX3_inject_8 (by decide) (fun c3 => ?_) (fun c3 => ?_)
  · exact J5 _ (by exact (if_pos c3).symm) ls (lv_sub hl [1, 2, 3, 0] rfl)
  · refine lv_iload_n hx hb dX3_inject_11 rfl (lv_at hl 3 rfl) ?_
    refine lv_iconst (v := 1) hx hb dX3_inject_12 (by decide) ?_
    have J6 : ∀ x5 : Int32, x5 = (if ¬ a0 = 1 then 0 else (let x5 : Int32 := x2 / 2; x5)) → ∀ ls : Array Slot, lv_has ls 7 [(0, .ref (ad 0)), (1, .ref (ad (60 + v))), (2, .int a0), (3, .int x2)] → W p l e (headSpec wsX3_inject ({ frames := 2, cells := 0, slots := 0, locals := 43 })).room s m ([.ref (ad 0), .ref (ad (60 + v)), .int a0] : List Value).toArray below meth c s.heap [] 0 0 (MQ below (z_Qi (rX3_inject M v a0) (fun H => zW dC dI ca ad (fX3_inject M v a0) H ∧ z_Fx M (fX3_inject M v a0)) (z_A zd ad)) ([.ref (ad 0), .ref (ad (60 + v)), .int a0] : List Value).toArray s 0 0 (z_A zd ad)) (F0 m 23 ls [.int x5]) := by
      intro x5 ex5 ls hl
      refine lv_istore_n (lv' := [(3, .int x5), (0, .ref (ad 0)), (1, .ref (ad (60 + v))), (2, .int a0)]) hx hb dX3_inject_23 rfl hl (by decide) rfl (fun ls hl => ?_)
      exact J5 _ (by subst ex5; exact (if_neg c3).symm) ls (lv_sub hl [1, 2, 3, 0] rfl)
    refine lv_icmp_ne (tgt := 22) hx hb dX3_inject_13 (by decide) (fun c4 => ?_) (fun c4 => ?_)
    · refine lv_iconst (v := 0) hx hb dX3_inject_22 (by decide) ?_
      exact J6 _ (by exact (if_pos c4).symm) ls (lv_sub hl [1, 2, 3, 0] rfl)
    · refine lv_iload_n hx hb dX3_inject_16 rfl (lv_at hl 0 rfl) ?_
      refine lv_iconst (v := 2) hx hb dX3_inject_17 (by decide) ?_
      refine lv_idiv hx hb dX3_inject_18 (by decide) ?_
      refine lv_topi (fun x5 ex5 => ?_)
      refine lv_goto (tgt := 23) hx hb dX3_inject_19 (by decide) ?_
      exact J6 _ (by subst ex5; exact (if_neg (fun hh => hh c4)).symm) ls (lv_sub hl [1, 2, 3, 0] rfl)

def fX3_letFlow (M : zM) (s0 : Nat) : zM :=
  let x1 : Int32 := M (70 + s0) 0
  let x2 : Int32 := rX0_pressure M x1.toNatClampNeg
  let x3 : Int32 := M (70 + s0) 1
  let x4 : Int32 := x2 - x3
  let x5 : Int32 := if x4 < 0 then 0 else x4
  let x6 : Int32 := x5 / 5
  let M7 : zM := fX0_take M x1.toNatClampNeg x6 10
  let M8 : zM := fX6_add M7 13 10
  let x9 : Int32 := M8 10 0
  let M10 : zM := fX5_note M8 s0 x9
  M10
set_option maxHeartbeats 4000000 in
set_option maxRecDepth 100000 in
theorem m_X3_letFlow (l : Launch) (dC : Nat → ClassId) (dI : Nat → Nat → Nat) (ca : Nat → ClassId) (ad : Nat → Nat) (hI : z_I zd ad) (M : zM) (s0 : Nat) (h_s0 : s0 < 3) (hOk0 : z_Ok M) : Met l yX3_letFlow wsX3_letFlow ({ frames := 2, cells := 0, slots := 0, locals := 45 }) (z_Pc (dC, dI) vwCl (zt ca) zw_nest [.ref (ad 0), .ref (ad (70 + s0))] (fun H => zW dC dI ca ad M H)) (z_Qv (fun H => zW dC dI ca ad (fX3_letFlow M s0) H ∧ z_Fx M (fX3_letFlow M s0)) (z_A zd ad)) 0 0 (z_A zd ad) := by
  refine Met.ofW (cc := cX3_letFlow) (maxL := 3) (ret := none) (by decide) rfl ?_
  intro p e s m args below meth c s₁ B9 hml hv
  obtain ⟨rfl, hH, hK, hN⟩ := hv
  have hx := B9.exec
  have hb := B9.bytes
  have hr := B9.returns
  have hts := atoms_spec (ws := wsX3_letFlow) B9.pre
  have hown : s.vm.findClass RX3 = some m.cls := findClass_of_methodNamed B9.named
  have hlocks := B9.notSynchronized
  have hS : va_S (z_A zd ad) s.heap s.heap [] := va_S.rf
  have hOk := hOk0
  have hFx : z_Fx M M := z_Fx.rf
  have hH : zW dC dI ca ad M s.heap := hH
  have hinX1 : ∀ w ∈ u_ws RX1 TX1 5, w ∈ wsX3_letFlow := by decide +kernel
  have hinX3 : ∀ w ∈ u_ws RX3 TX3 15, w ∈ wsX3_letFlow := by decide +kernel
  have hinX5 : ∀ w ∈ u_ws RX5 TX5 7, w ∈ wsX3_letFlow := by decide +kernel
  have hinX6 : ∀ w ∈ u_ws RX6 TX6 4, w ∈ wsX3_letFlow := by decide +kernel
  have hl := lv_entry ([.ref (ad 0), .ref (ad (70 + s0))]) (n := 3) (Nat.le_of_ble_eq_true rfl)
  rw [lg_entry_eq]
  generalize (lg_sl ([.ref (ad 0), .ref (ad (70 + s0))]) ++ List.replicate (3 - (lg_sl ([.ref (ad 0), .ref (ad (70 + s0))])).length) Slot.unset).toArray = ls at hl ⊢
  have hl : lv_has ls 3 [(0, .ref (ad 0)), (1, .ref (ad (70 + s0)))] := hl
  refine lv_aload_n hx hb dX3_letFlow_0 rfl (lv_at hl 0 rfl) ?_
  refine z_gr (D := (dC, dI)) (cl := vwCl) (C := RX3) (T := TX3) (N := 15) (ci := 3) (k := 0) hx hb hts hinX3 hown hK hH zk_0 (by decide) rfl (by decide) rfl (zr_0 (k := 0) (by decide)) (hts (.fieldLink RX3 11 "Steamfield$Land" "blocks" "[LSteamfield$Block;") (by decide +kernel)) (fun _ h9 => h9) dX3_letFlow_1 ?_
  refine lv_aload_n hx hb dX3_letFlow_4 rfl (lv_at hl 1 rfl) ?_
  refine z_giN (D := (dC, dI)) (cl := vwCl) (C := RX5) (T := TX5) (N := 7) (ci := 5) (k := 0) hx hb hts hinX5 hown hK hH (zk_s h_s0) (by decide) rfl (by decide) rfl (hN (.fieldLinkNest RX3 275 "Steamfield$Spring" "block" "I" "Steamfield") (by decide +kernel)) (fun _ h9 => h9) dX3_letFlow_5 ?_
  refine lv_topi (fun x1 ex1 => ?_)
  have hx1 : z_ix x1 8 := by rw [ex1]; exact z_Ok.sblock hOk h_s0
  refine z_aq (t0 := 1) (D := (dC, dI)) (cl := vwCl) (tys := zt ca) hx hb hK hH zk_1 (by decide) (by decide) rfl (show vp_in x1 8 from (z_ix.in hx1)) (show zr 1 (x1 : Int32).toNatClampNeg = some (20 + x1.toNatClampNeg) from zr_1 (z_ix.lt hx1)) dX3_letFlow_8 ?_
  refine lv_astore_n (lv' := [(2, .ref (ad (20 + x1.toNatClampNeg))), (0, .ref (ad 0)), (1, .ref (ad (70 + s0)))]) hx hb dX3_letFlow_9 rfl hl (by decide) rfl (fun ls hl => ?_)
  refine lv_aload_n hx hb dX3_letFlow_10 rfl (lv_at hl 0 rfl) ?_
  refine lv_aload_n hx hb dX3_letFlow_11 rfl (lv_at hl 0 rfl) ?_
  refine z_cVi (D := (dC, dI)) (cl := vwCl) (tys := zt ca) (nw := zw_nest) (C := RX0) (As := []) (rest := [.ref (ad (20 + x1.toNatClampNeg))]) ⟨hx, hb, hml, hown, hts⟩ (m_X0_pressure l dC dI ca ad hI M x1.toNatClampNeg (z_ix.lt hx1)) (cwV 0 hts gX3_letFlow_X0_pressure rfl rfl rfl (by decide +kernel) ⟨Nat.le_of_ble_eq_true rfl, Nat.le_of_ble_eq_true rfl⟩) (z_recv (ci := 0) (i := (20 + x1.toNatClampNeg)) hK hH (zk_b (z_ix.lt hx1)) (by decide) rfl) hH hK hN zw_nest_ok rfl hl.1 rfl (Nat.le_of_ble_eq_true rfl) dX3_letFlow_12 ⟨Nat.le_refl _, Nat.le_refl _⟩ hS (fun _ h => h) (fun H locs hB1 oq1 hz1 hS => ?_)
  have hH := hB1
  refine lv_topi (fun x2 ex2 => ?_)
  refine lv_aload_n hx hb dX3_letFlow_15 rfl (lv_at hl 2 rfl) ?_
  refine z_giN (D := (dC, dI)) (cl := vwCl) (C := RX5) (T := TX5) (N := 7) (ci := 5) (k := 1) hx hb hts hinX5 hown hK hH (zk_s h_s0) (by decide) rfl (by decide) rfl (hN (.fieldLinkNest RX3 276 "Steamfield$Spring" "level" "I" "Steamfield") (by decide +kernel)) (fun _ h9 => h9) dX3_letFlow_16 ?_
  refine lv_topi (fun x3 ex3 => ?_)
  refine lv_isub hx hb dX3_letFlow_19 ?_
  refine lv_topi (fun x4 ex4 => ?_)
  refine lv_iconst (v := 0) hx hb dX3_letFlow_20 (by decide) ?_
  refine va_mmax hx hb (hml.trans hl.1.symm) hown (hts (.methodLink RX3 226 Lib.Math.max.name) (by decide +kernel)) (hts (.static Lib.Math.max.name) (by decide +kernel)) (hts (.initialized "java/lang/Math") (by decide +kernel)) (hts (.code Lib.Math.max.name Lib.Math.max.code 2 (some .int)) (by decide +kernel)) (Nat.le_of_ble_eq_true rfl) (Nat.le_of_ble_eq_true rfl) (Nat.le_refl _) (Nat.le_refl _) dX3_letFlow_21 ?_
  refine lv_topi (fun x5 ex5 => ?_)
  refine lv_iconst (v := 5) hx hb dX3_letFlow_24 (by decide) ?_
  refine lv_idiv hx hb dX3_letFlow_25 (by decide) ?_
  refine lv_topi (fun x6 ex6 => ?_)
  refine lv_aload_n hx hb dX3_letFlow_26 rfl (lv_at hl 1 rfl) ?_
  refine z_gr (D := (dC, dI)) (cl := vwCl) (C := RX3) (T := TX3) (N := 15) (ci := 3) (k := 9) hx hb hts hinX3 hown hK hH zk_0 (by decide) rfl (by decide) rfl (zr_0 (k := 9) (by decide)) (hts (.fieldLink RX3 63 "Steamfield$Land" "load" "LSteamfield$Water;") (by decide +kernel)) (fun _ h9 => h9) dX3_letFlow_27 ?_
  refine z_cVv (D := (dC, dI)) (cl := vwCl) (tys := zt ca) (nw := zw_nest) (C := RX0) (As := [.int x6, .ref (ad 10)]) (rest := []) ⟨hx, hb, hml, hown, hts⟩ (m_X0_take l dC dI ca ad hI M x1.toNatClampNeg (z_ix.lt hx1) x6 10 zk_10) (cwV 2 hts gX3_letFlow_X0_take rfl rfl rfl (by decide +kernel) ⟨Nat.le_of_ble_eq_true rfl, Nat.le_of_ble_eq_true rfl⟩) (z_recv (ci := 0) (i := (20 + x1.toNatClampNeg)) hK hH (zk_b (z_ix.lt hx1)) (by decide) rfl) hH hK hN zw_nest_ok rfl hl.1 rfl (Nat.le_of_ble_eq_true rfl) dX3_letFlow_30 ⟨Nat.le_refl _, Nat.le_refl _⟩ hS (fun _ h => h) (fun H locs hB1 oq1 hz1 hS => ?_)
  have hH := hB1
  obtain ⟨M7, hM7⟩ : ∃ z : zM, z = fX0_take M x1.toNatClampNeg x6 10 := ⟨_, rfl⟩
  have hH : z_H (dC, dI) vwCl zf ca zd ad M7 H := by rw [hM7]; exact hH
  have hFx : z_Fx M M7 := hFx.tr (by rw [hM7]; exact (fx_X0_take M x1.toNatClampNeg (z_ix.lt hx1) x6 10 zk_10))
  have hOk : z_Ok M7 := hOk0.fx hFx
  refine lv_aload_n hx hb dX3_letFlow_33 rfl (lv_at hl 1 rfl) ?_
  refine z_gr (D := (dC, dI)) (cl := vwCl) (C := RX3) (T := TX3) (N := 15) (ci := 3) (k := 6) hx hb hts hinX3 hown hK hH zk_0 (by decide) rfl (by decide) rfl (zr_0 (k := 6) (by decide)) (hts (.fieldLink RX3 52 "Steamfield$Land" "books" "LSteamfield$Books;") (by decide +kernel)) (fun _ h9 => h9) dX3_letFlow_34 ?_
  refine z_grN (D := (dC, dI)) (cl := vwCl) (C := RX1) (T := TX1) (N := 5) (ci := 1) (k := 2) hx hb hts hinX1 hown hK hH zk_7 (by decide) rfl (by decide) rfl (zr_7 (k := 2) (by decide)) (hN (.fieldLinkNest RX3 136 "Steamfield$Books" "sprung" "LSteamfield$Water;" "Steamfield") (by decide +kernel)) (fun _ h9 => h9) dX3_letFlow_37 ?_
  refine lv_aload_n hx hb dX3_letFlow_40 rfl (lv_at hl 1 rfl) ?_
  refine z_gr (D := (dC, dI)) (cl := vwCl) (C := RX3) (T := TX3) (N := 15) (ci := 3) (k := 9) hx hb hts hinX3 hown hK hH zk_0 (by decide) rfl (by decide) rfl (zr_0 (k := 9) (by decide)) (hts (.fieldLink RX3 63 "Steamfield$Land" "load" "LSteamfield$Water;") (by decide +kernel)) (fun _ h9 => h9) dX3_letFlow_41 ?_
  refine z_cVv (D := (dC, dI)) (cl := vwCl) (tys := zt ca) (nw := zw_nest) (C := RX6) (As := [.ref (ad 10)]) (rest := []) ⟨hx, hb, hml, hown, hts⟩ (m_X6_add l dC dI ca ad hI M7 13 zk_13 10 zk_10) (cwV 1 hts gX3_letFlow_X6_add rfl rfl rfl (by decide +kernel) ⟨Nat.le_of_ble_eq_true rfl, Nat.le_of_ble_eq_true rfl⟩) (z_recv (ci := 6) (i := 13) hK hH zk_13 (by decide) rfl) hH hK hN zw_nest_ok rfl hl.1 rfl (Nat.le_of_ble_eq_true rfl) dX3_letFlow_44 ⟨Nat.le_refl _, Nat.le_refl _⟩ hS (fun _ h => h) (fun H locs hB1 oq1 hz1 hS => ?_)
  have hH := hB1
  obtain ⟨M8, hM8⟩ : ∃ z : zM, z = fX6_add M7 13 10 := ⟨_, rfl⟩
  have hH : z_H (dC, dI) vwCl zf ca zd ad M8 H := by rw [hM8]; exact hH
  have hFx : z_Fx M M8 := hFx.tr (by rw [hM8]; exact (fx_X6_add M7 13 zk_13 10 zk_10))
  have hOk : z_Ok M8 := hOk0.fx hFx
  refine lv_aload_n hx hb dX3_letFlow_47 rfl (lv_at hl 2 rfl) ?_
  refine lv_aload_n hx hb dX3_letFlow_48 rfl (lv_at hl 1 rfl) ?_
  refine z_gr (D := (dC, dI)) (cl := vwCl) (C := RX3) (T := TX3) (N := 15) (ci := 3) (k := 9) hx hb hts hinX3 hown hK hH zk_0 (by decide) rfl (by decide) rfl (zr_0 (k := 9) (by decide)) (hts (.fieldLink RX3 63 "Steamfield$Land" "load" "LSteamfield$Water;") (by decide +kernel)) (fun _ h9 => h9) dX3_letFlow_49 ?_
  refine z_giN (D := (dC, dI)) (cl := vwCl) (C := RX6) (T := TX6) (N := 4) (ci := 6) (k := 0) hx hb hts hinX6 hown hK hH zk_10 (by decide) rfl (by decide) rfl (hN (.fieldLinkNest RX3 204 "Steamfield$Water" "mass" "I" "Steamfield") (by decide +kernel)) (fun _ h9 => h9) dX3_letFlow_52 ?_
  refine lv_topi (fun x9 ex9 => ?_)
  refine z_cVv (D := (dC, dI)) (cl := vwCl) (tys := zt ca) (nw := zw_nest) (C := RX5) (As := [.int x9]) (rest := []) ⟨hx, hb, hml, hown, hts⟩ (m_X5_note l dC dI ca ad hI M8 s0 h_s0 x9) (cwV 1 hts gX3_letFlow_X5_note rfl rfl rfl (by decide +kernel) ⟨Nat.le_of_ble_eq_true rfl, Nat.le_of_ble_eq_true rfl⟩) (z_recv (ci := 5) (i := (70 + s0)) hK hH (zk_s h_s0) (by decide) rfl) hH hK hN zw_nest_ok rfl hl.1 rfl (Nat.le_of_ble_eq_true rfl) dX3_letFlow_55 ⟨Nat.le_refl _, Nat.le_refl _⟩ hS (fun _ h => h) (fun H locs hB1 oq1 hz1 hS => ?_)
  have hH := hB1
  obtain ⟨M10, hM10⟩ : ∃ z : zM, z = fX5_note M8 s0 x9 := ⟨_, rfl⟩
  have hH : z_H (dC, dI) vwCl zf ca zd ad M10 H := by rw [hM10]; exact hH
  have hFx : z_Fx M M10 := hFx.tr (by rw [hM10]; exact (fx_X5_note M8 s0 h_s0 x9))
  have hOk : z_Ok M10 := hOk0.fx hFx
  have hF0 : zW dC dI ca ad (fX3_letFlow M s0) H := by
    have e9 : M10 = (fX3_letFlow M s0) := by subst hM10; subst ex9; subst hM8; subst hM7; subst ex6; subst ex5; subst ex4; subst ex3; subst ex2; subst ex1; rfl
    rw [← e9]; exact hH
  have hFF : z_Fx M (fX3_letFlow M s0) := by
    have e9 : M10 = (fX3_letFlow M s0) := by subst hM10; subst ex9; subst hM8; subst hM7; subst ex6; subst ex5; subst ex4; subst ex3; subst ex2; subst ex1; rfl
    rw [← e9]; exact hFx
  exact W.vret hx hb hr (fun t ht hW => ⟨⟨(), rfl, trivial, z_to (B := fun H => zW dC dI ca ad (fX3_letFlow M s0) H ∧ z_Fx M (fX3_letFlow M s0)) ht ⟨hF0, hFF⟩⟩, hS.F ht⟩) hS.2.2 dX3_letFlow_58

