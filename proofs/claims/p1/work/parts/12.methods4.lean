def rX6_part (M : zM) (i : Nat) (a0 : Int32) : Int32 :=

  if a0 = 0 then (let x2 : Int32 := M i 0; x2) else if a0 = 1 then (let x4 : Int32 := M i 1; x4) else if a0 = 2 then (let x6 : Int32 := M i 2; x6) else (let x7 : Int32 := M i 3; x7)
set_option maxHeartbeats 4000000 in
set_option maxRecDepth 100000 in
theorem m_X6_part (l : Launch) (dC : Nat → ClassId) (dI : Nat → Nat → Nat) (ca : Nat → ClassId) (ad : Nat → Nat) (hI : z_I zd ad) (M : zM) (i : Nat) (h_i : zk i = 6) (a0 : Int32) : Met l yX6_part wsX6_part ({ frames := 0, cells := 0, slots := 0, locals := 0 }) (z_Pc (dC, dI) vwCl (zt ca) zw_nest [.ref (ad i), .int a0] (fun H => zW dC dI ca ad M H)) (z_Qi (rX6_part M i a0) (fun H => zW dC dI ca ad M H) (z_A zd ad)) 0 0 (z_A zd ad) := by
  refine Met.ofW (cc := cX6_part) (maxL := 2) (ret := (some .int)) (by decide) rfl ?_
  intro p e s m args below meth c s₁ B9 hml hv
  obtain ⟨rfl, hH, hK, hN⟩ := hv
  have hx := B9.exec
  have hb := B9.bytes
  have hr := B9.returns
  have hts := atoms_spec (ws := wsX6_part) B9.pre
  have hown : s.vm.findClass RX6 = some m.cls := findClass_of_methodNamed B9.named
  have hlocks := B9.notSynchronized
  have hS : va_S (z_A zd ad) s.heap s.heap [] := va_S.rf
  have hH : zW dC dI ca ad M s.heap := hH
  have hinX6 : ∀ w ∈ u_ws RX6 TX6 4, w ∈ wsX6_part := by decide +kernel
  have hl := lv_entry ([.ref (ad i), .int a0]) (n := 2) (Nat.le_of_ble_eq_true rfl)
  rw [lg_entry_eq]
  generalize (lg_sl ([.ref (ad i), .int a0]) ++ List.replicate (2 - (lg_sl ([.ref (ad i), .int a0])).length) Slot.unset).toArray = ls at hl ⊢
  have hl : lv_has ls 2 [(0, .ref (ad i)), (1, .int a0)] := hl
  refine lv_iload_n hx hb dX6_part_0 rfl (lv_at hl 1 rfl) ?_
  by_cases c1 : a0 = 0
  · refine lv_tableIn (off := 27) (tgt := 28) hx hb dX6_part_1 (by rw [c1]; decide) (by rw [c1]; decide) (z_t c1 rfl) (by decide) ?_
    refine lv_aload_n hx hb dX6_part_28 rfl (lv_at hl 0 rfl) ?_
    refine z_gi (D := (dC, dI)) (cl := vwCl) (C := RX6) (T := TX6) (N := 4) (ci := 6) (k := 0) hx hb hts hinX6 hown hK hH h_i (by decide) rfl (by decide) rfl (hts (.fieldLink RX6 7 "Steamfield$Water" "mass" "I") (by decide +kernel)) (fun _ h9 => h9) dX6_part_29 ?_
    refine lv_topi (fun x2 ex2 => ?_)
    have hR : x2 = rX6_part M i a0 := by subst ex2; exact ((if_pos c1).symm)
    exact W.iret (v := x2) hx hb hr (fun t ht hW => ⟨⟨x2, (), rfl, hR, z_to (B := fun H => zW dC dI ca ad M H) ht hH⟩, hS.F ht⟩) hS.2.2 dX6_part_32
  by_cases c3 : a0 = 1
  · refine lv_tableIn (off := 32) (tgt := 33) hx hb dX6_part_1 (by rw [c3]; decide) (by rw [c3]; decide) (z_t c3 rfl) (by decide) ?_
    refine lv_aload_n hx hb dX6_part_33 rfl (lv_at hl 0 rfl) ?_
    refine z_gi (D := (dC, dI)) (cl := vwCl) (C := RX6) (T := TX6) (N := 4) (ci := 6) (k := 1) hx hb hts hinX6 hown hK hH h_i (by decide) rfl (by decide) rfl (hts (.fieldLink RX6 13 "Steamfield$Water" "heat" "I") (by decide +kernel)) (fun _ h9 => h9) dX6_part_34 ?_
    refine lv_topi (fun x4 ex4 => ?_)
    have hR : x4 = rX6_part M i a0 := by subst ex4; exact (((if_pos c3).symm).trans (if_neg c1).symm)
    exact W.iret (v := x4) hx hb hr (fun t ht hW => ⟨⟨x4, (), rfl, hR, z_to (B := fun H => zW dC dI ca ad M H) ht hH⟩, hS.F ht⟩) hS.2.2 dX6_part_37
  by_cases c5 : a0 = 2
  · refine lv_tableIn (off := 37) (tgt := 38) hx hb dX6_part_1 (by rw [c5]; decide) (by rw [c5]; decide) (z_t c5 rfl) (by decide) ?_
    refine lv_aload_n hx hb dX6_part_38 rfl (lv_at hl 0 rfl) ?_
    refine z_gi (D := (dC, dI)) (cl := vwCl) (C := RX6) (T := TX6) (N := 4) (ci := 6) (k := 2) hx hb hts hinX6 hown hK hH h_i (by decide) rfl (by decide) rfl (hts (.fieldLink RX6 16 "Steamfield$Water" "salt" "I") (by decide +kernel)) (fun _ h9 => h9) dX6_part_39 ?_
    refine lv_topi (fun x6 ex6 => ?_)
    have hR : x6 = rX6_part M i a0 := by subst ex6; exact ((((if_pos c5).symm).trans (if_neg c3).symm).trans (if_neg c1).symm)
    exact W.iret (v := x6) hx hb hr (fun t ht hW => ⟨⟨x6, (), rfl, hR, z_to (B := fun H => zW dC dI ca ad M H) ht hH⟩, hS.F ht⟩) hS.2.2 dX6_part_42
  refine lv_tableOut (tgt := 43) hx hb dX6_part_1 (z_tout3 c1 c3 c5) (by decide) ?_
  refine lv_aload_n hx hb dX6_part_43 rfl (lv_at hl 0 rfl) ?_
  refine z_gi (D := (dC, dI)) (cl := vwCl) (C := RX6) (T := TX6) (N := 4) (ci := 6) (k := 3) hx hb hts hinX6 hown hK hH h_i (by decide) rfl (by decide) rfl (hts (.fieldLink RX6 19 "Steamfield$Water" "tracer" "I") (by decide +kernel)) (fun _ h9 => h9) dX6_part_44 ?_
  refine lv_topi (fun x7 ex7 => ?_)
  have hR : x7 = rX6_part M i a0 := by subst ex7; exact ((((if_neg c5).symm).trans (if_neg c3).symm).trans (if_neg c1).symm)
  exact W.iret (v := x7) hx hb hr (fun t ht hW => ⟨⟨x7, (), rfl, hR, z_to (B := fun H => zW dC dI ca ad M H) ht hH⟩, hS.F ht⟩) hS.2.2 dX6_part_47

def bX3_inBlocks_4 (M : zM) (a0 : Int32) (k1 : Nat) (st : Int32) : Int32 :=
  let a4 : Int32 := st
  let i2 : Int32 := nI k1
  let x6 : Int32 := M 0 10
  let x8 : Int32 := rX6_part M (30 + k1) a0
  let x9 : Int32 := a4 + x8
  x9
def rX3_inBlocks (M : zM) (a0 : Int32) : Int32 :=
  let a4 : Int32 := (zit (bX3_inBlocks_4 M a0) (zc10 M) 0)
  a4
set_option maxHeartbeats 4000000 in
set_option maxRecDepth 100000 in
theorem m_X3_inBlocks (l : Launch) (dC : Nat → ClassId) (dI : Nat → Nat → Nat) (ca : Nat → ClassId) (ad : Nat → Nat) (hI : z_I zd ad) (M : zM) (a0 : Int32) (hOk0 : z_Ok M) : Met l yX3_inBlocks wsX3_inBlocks ({ frames := 1, cells := 0, slots := 0, locals := 21 }) (z_Pc (dC, dI) vwCl (zt ca) zw_nest [.ref (ad 0), .int a0] (fun H => zW dC dI ca ad M H)) (z_Qi (rX3_inBlocks M a0) (fun H => zW dC dI ca ad M H) (z_A zd ad)) 0 0 (z_A zd ad) := by
  refine Met.ofW (cc := cX3_inBlocks) (maxL := 4) (ret := (some .int)) (by decide) rfl ?_
  intro p e s m args below meth c s₁ B9 hml hv
  obtain ⟨rfl, hH, hK, hN⟩ := hv
  have hx := B9.exec
  have hb := B9.bytes
  have hr := B9.returns
  have hts := atoms_spec (ws := wsX3_inBlocks) B9.pre
  have hown : s.vm.findClass RX3 = some m.cls := findClass_of_methodNamed B9.named
  have hlocks := B9.notSynchronized
  have hS : va_S (z_A zd ad) s.heap s.heap [] := va_S.rf
  have hOk := hOk0
  have hFx : z_Fx M M := z_Fx.rf
  have hH : zW dC dI ca ad M s.heap := hH
  have hinX0 : ∀ w ∈ u_ws RX0 TX0 3, w ∈ wsX3_inBlocks := by decide +kernel
  have hinX3 : ∀ w ∈ u_ws RX3 TX3 15, w ∈ wsX3_inBlocks := by decide +kernel
  have hl := lv_entry ([.ref (ad 0), .int a0]) (n := 4) (Nat.le_of_ble_eq_true rfl)
  rw [lg_entry_eq]
  generalize (lg_sl ([.ref (ad 0), .int a0]) ++ List.replicate (4 - (lg_sl ([.ref (ad 0), .int a0])).length) Slot.unset).toArray = ls at hl ⊢
  have hl : lv_has ls 4 [(0, .ref (ad 0)), (1, .int a0)] := hl
  refine lv_iconst (v := 0) hx hb dX3_inBlocks_0 (by decide) ?_
  refine lv_istore_n (lv' := [(2, .int 0), (0, .ref (ad 0)), (1, .int a0)]) hx hb dX3_inBlocks_1 rfl hl (by decide) rfl (fun ls hl => ?_)
  refine lv_iconst (v := 0) hx hb dX3_inBlocks_2 (by decide) ?_
  refine lv_istore_n (lv' := [(3, .int 0), (2, .int 0), (0, .ref (ad 0)), (1, .int a0)]) hx hb dX3_inBlocks_3 rfl hl (by decide) rfl (fun ls hl => ?_)
  have L5 : ∀ (d3 k1 : Nat), k1 ≤ zc10 M → zc10 M - k1 < d3 → ∀ a4 : Int32, a4 = zit (bX3_inBlocks_4 M a0) k1 0 → ∀ i2 : Int32, i2 = nI k1 → ∀ ls : Array Slot, lv_has ls 4 [(0, .ref (ad 0)), (1, .int a0), (2, .int a4), (3, .int i2)] → ∀ (H : Heap) (locs : List Loc), zW dC dI ca ad M H → va_S (z_A zd ad) s.heap H locs → W p l e (headSpec wsX3_inBlocks ({ frames := 1, cells := 0, slots := 0, locals := 21 })).room s m ([.ref (ad 0), .int a0] : List Value).toArray below meth c H locs 0 0 (MQ below (z_Qi (rX3_inBlocks M a0) (fun H => zW dC dI ca ad M H) (z_A zd ad)) ([.ref (ad 0), .int a0] : List Value).toArray s 0 0 (z_A zd ad)) (F0 m 4 ls []) := by
    intro d3
    induction d3 with
    | zero => intro k1 hk1 hd; exact absurd hd (by omega)
    | succ d3 ihk1 =>
      intro k1 hk1 hd a4 esk1 i2 ei2 ls hl H locs hH hS
      refine lv_iload_n hx hb dX3_inBlocks_4 rfl (lv_at hl 3 rfl) ?_
      refine lv_aload_n hx hb dX3_inBlocks_5 rfl (lv_at hl 0 rfl) ?_
      refine z_gi (D := (dC, dI)) (cl := vwCl) (C := RX3) (T := TX3) (N := 15) (ci := 3) (k := 10) hx hb hts hinX3 hown hK hH zk_0 (by decide) rfl (by decide) rfl (hts (.fieldLink RX3 98 "Steamfield$Land" "blockCount" "I") (by decide +kernel)) (fun _ h9 => h9) dX3_inBlocks_6 ?_
      refine lv_topi (fun x6 ex6 => ?_)
      have hx6 : x6 = nI (zc10 M) := by rw [ex6, hFx.c10]; exact z_Ok.c10 hOk0
      refine lv_icmp_ge (tgt := 34) hx hb dX3_inBlocks_9 (by decide) (fun c7 => ?_) (fun c7 => ?_)
      · have hkk1 : k1 = zc10 M := z_ge hx6 ei2 hk1 (Nat.lt_of_le_of_lt (z_Ok.n10 hOk0) (by decide)) c7
        have qa4 : a4 = (zit (bX3_inBlocks_4 M a0) (zc10 M) 0) := by rw [← hkk1, ← esk1]
        refine lv_iload_n hx hb dX3_inBlocks_34 rfl (lv_at hl 2 rfl) ?_
        have hR : a4 = rX3_inBlocks M a0 := by subst qa4; rfl
        exact W.iret (v := a4) hx hb hr (fun t ht hW => ⟨⟨a4, (), rfl, hR, z_to (B := fun H => zW dC dI ca ad M H) ht hH⟩, hS.F ht⟩) hS.2.2 dX3_inBlocks_35
      · have hkk1 : k1 < zc10 M := z_lt hx6 ei2 hk1 (Nat.lt_of_le_of_lt (z_Ok.n10 hOk0) (by decide)) c7
        refine lv_iload_n hx hb dX3_inBlocks_12 rfl (lv_at hl 2 rfl) ?_
        refine lv_aload_n hx hb dX3_inBlocks_13 rfl (lv_at hl 0 rfl) ?_
        refine z_gr (D := (dC, dI)) (cl := vwCl) (C := RX3) (T := TX3) (N := 15) (ci := 3) (k := 0) hx hb hts hinX3 hown hK hH zk_0 (by decide) rfl (by decide) rfl (zr_0 (k := 0) (by decide)) (hts (.fieldLink RX3 11 "Steamfield$Land" "blocks" "[LSteamfield$Block;") (by decide +kernel)) (fun _ h9 => h9) dX3_inBlocks_14 ?_
        refine lv_iload_n hx hb dX3_inBlocks_17 rfl (lv_at hl 3 rfl) ?_
        refine z_aq (t0 := 1) (D := (dC, dI)) (cl := vwCl) (tys := zt ca) hx hb hK hH zk_1 (by decide) (by decide) rfl (show vp_in i2 8 from (zx ei2 (Nat.lt_of_lt_of_le hkk1 (z_Ok.n10 hOk0)) (by decide))) (show zr 1 (i2 : Int32).toNatClampNeg = some (20 + k1) from by rw [zx_n ei2 (Nat.lt_trans (Nat.lt_of_lt_of_le hkk1 (z_Ok.n10 hOk0)) (by decide : 8 < 2 ^ 31))]; exact zr_1 (Nat.lt_of_lt_of_le hkk1 (z_Ok.n10 hOk0))) dX3_inBlocks_18 ?_
        refine z_grN (D := (dC, dI)) (cl := vwCl) (C := RX0) (T := TX0) (N := 3) (ci := 0) (k := 0) hx hb hts hinX0 hown hK hH (zk_b (Nat.lt_of_lt_of_le hkk1 (z_Ok.n10 hOk0))) (by decide) rfl (by decide) rfl (zr_b (Nat.lt_of_lt_of_le hkk1 (z_Ok.n10 hOk0))) (hN (.fieldLinkNest RX3 123 "Steamfield$Block" "water" "LSteamfield$Water;" "Steamfield") (by decide +kernel)) (fun _ h9 => h9) dX3_inBlocks_19 ?_
        refine lv_iload_n hx hb dX3_inBlocks_22 rfl (lv_at hl 1 rfl) ?_
        refine z_cVi (D := (dC, dI)) (cl := vwCl) (tys := zt ca) (nw := zw_nest) (C := RX6) (As := [.int a0]) (rest := [.int a4]) ⟨hx, hb, hml, hown, hts⟩ (m_X6_part l dC dI ca ad hI M (30 + k1) (zk_w (Nat.lt_of_lt_of_le hkk1 (z_Ok.n10 hOk0))) a0) (cwV 1 hts gX3_inBlocks_X6_part rfl rfl rfl (by decide +kernel) ⟨Nat.le_of_ble_eq_true rfl, Nat.le_of_ble_eq_true rfl⟩) (z_recv (ci := 6) (i := (30 + k1)) hK hH (zk_w (Nat.lt_of_lt_of_le hkk1 (z_Ok.n10 hOk0))) (by decide) rfl) hH hK hN zw_nest_ok rfl hl.1 rfl (Nat.le_of_ble_eq_true rfl) dX3_inBlocks_23 ⟨Nat.le_refl _, Nat.le_refl _⟩ hS (fun _ h => h) (fun H locs hB1 oq1 hz1 hS => ?_)
        have hH := hB1
        refine lv_topi (fun x8 ex8 => ?_)
        refine lv_iadd hx hb dX3_inBlocks_26 ?_
        refine lv_topi (fun x9 ex9 => ?_)
        refine lv_istore_n (lv' := [(2, .int x9), (0, .ref (ad 0)), (1, .int a0), (3, .int i2)]) hx hb dX3_inBlocks_27 rfl hl (by decide) rfl (fun ls hl => ?_)
        obtain ⟨x10, ex10⟩ : ∃ z : Int32, z = i2 + 1 := ⟨_, rfl⟩
        refine lv_iinc (v := x10) (lv' := [(3, .int x10), (2, .int x9), (0, .ref (ad 0)), (1, .int a0)]) hx hb dX3_inBlocks_28 hl (k := 3) rfl (by rw [ex10]; rfl) (by decide) rfl (fun ls hl => ?_)
        refine lv_goto (tgt := 4) hx hb dX3_inBlocks_31 (by decide) ?_
        exact ihk1 (k1 + 1) hkk1 (by omega) x9 (by rw [zit_s, ← esk1]; subst ex10; subst ex9; subst ex8; subst ex6; subst ei2; rfl) x10 (z_nx ei2 ex10) ls (lv_sub hl [2, 3, 1, 0] rfl) _ _ hH hS
  exact L5 (zc10 M + 1) 0 (Nat.zero_le _) (by omega) 0 (zit_0 _ _).symm _ rfl ls (lv_sub hl [2, 3, 1, 0] rfl) s.heap [] hH hS

def rX3_accountedFor (M : zM) (a0 : Int32) : Int32 :=
  let x1 : Int32 := rX3_inBlocks M a0
  let x2 : Int32 := rX6_part M 5 a0
  let x3 : Int32 := x1 + x2
  let x4 : Int32 := rX6_part M 12 a0
  let x5 : Int32 := x3 + x4
  let x6 : Int32 := rX6_part M 13 a0
  let x7 : Int32 := x5 + x6
  x7
set_option maxHeartbeats 4000000 in
set_option maxRecDepth 100000 in
theorem m_X3_accountedFor (l : Launch) (dC : Nat → ClassId) (dI : Nat → Nat → Nat) (ca : Nat → ClassId) (ad : Nat → Nat) (hI : z_I zd ad) (M : zM) (a0 : Int32) (hOk0 : z_Ok M) : Met l yX3_accountedFor wsX3_accountedFor ({ frames := 2, cells := 0, slots := 0, locals := 44 }) (z_Pc (dC, dI) vwCl (zt ca) zw_nest [.ref (ad 0), .int a0] (fun H => zW dC dI ca ad M H)) (z_Qi (rX3_accountedFor M a0) (fun H => zW dC dI ca ad M H) (z_A zd ad)) 0 0 (z_A zd ad) := by
  refine Met.ofW (cc := cX3_accountedFor) (maxL := 2) (ret := (some .int)) (by decide) rfl ?_
  intro p e s m args below meth c s₁ B9 hml hv
  obtain ⟨rfl, hH, hK, hN⟩ := hv
  have hx := B9.exec
  have hb := B9.bytes
  have hr := B9.returns
  have hts := atoms_spec (ws := wsX3_accountedFor) B9.pre
  have hown : s.vm.findClass RX3 = some m.cls := findClass_of_methodNamed B9.named
  have hlocks := B9.notSynchronized
  have hS : va_S (z_A zd ad) s.heap s.heap [] := va_S.rf
  have hOk := hOk0
  have hFx : z_Fx M M := z_Fx.rf
  have hH : zW dC dI ca ad M s.heap := hH
  have hinX1 : ∀ w ∈ u_ws RX1 TX1 5, w ∈ wsX3_accountedFor := by decide +kernel
  have hinX3 : ∀ w ∈ u_ws RX3 TX3 15, w ∈ wsX3_accountedFor := by decide +kernel
  have hl := lv_entry ([.ref (ad 0), .int a0]) (n := 2) (Nat.le_of_ble_eq_true rfl)
  rw [lg_entry_eq]
  generalize (lg_sl ([.ref (ad 0), .int a0]) ++ List.replicate (2 - (lg_sl ([.ref (ad 0), .int a0])).length) Slot.unset).toArray = ls at hl ⊢
  have hl : lv_has ls 2 [(0, .ref (ad 0)), (1, .int a0)] := hl
  refine lv_aload_n hx hb dX3_accountedFor_0 rfl (lv_at hl 0 rfl) ?_
  refine lv_iload_n hx hb dX3_accountedFor_1 rfl (lv_at hl 1 rfl) ?_
  refine z_cVi (D := (dC, dI)) (cl := vwCl) (tys := zt ca) (nw := zw_nest) (C := RX3) (As := [.int a0]) (rest := []) ⟨hx, hb, hml, hown, hts⟩ (m_X3_inBlocks l dC dI ca ad hI M a0 hOk) (cwV 1 hts gX3_accountedFor_X3_inBlocks rfl rfl rfl (by decide +kernel) ⟨Nat.le_of_ble_eq_true rfl, Nat.le_of_ble_eq_true rfl⟩) (z_recv (ci := 3) (i := 0) hK hH zk_0 (by decide) rfl) hH hK hN zw_nest_ok rfl hl.1 rfl (Nat.le_of_ble_eq_true rfl) dX3_accountedFor_2 ⟨Nat.le_refl _, Nat.le_refl _⟩ hS (fun _ h => h) (fun H locs hB1 oq1 hz1 hS => ?_)
  have hH := hB1
  refine lv_topi (fun x1 ex1 => ?_)
  refine lv_aload_n hx hb dX3_accountedFor_5 rfl (lv_at hl 0 rfl) ?_
  refine z_gr (D := (dC, dI)) (cl := vwCl) (C := RX3) (T := TX3) (N := 15) (ci := 3) (k := 4) hx hb hts hinX3 hown hK hH zk_0 (by decide) rfl (by decide) rfl (zr_0 (k := 4) (by decide)) (hts (.fieldLink RX3 38 "Steamfield$Land" "pond" "LSteamfield$Water;") (by decide +kernel)) (fun _ h9 => h9) dX3_accountedFor_6 ?_
  refine lv_iload_n hx hb dX3_accountedFor_9 rfl (lv_at hl 1 rfl) ?_
  refine z_cVi (D := (dC, dI)) (cl := vwCl) (tys := zt ca) (nw := zw_nest) (C := RX6) (As := [.int a0]) (rest := [.int x1]) ⟨hx, hb, hml, hown, hts⟩ (m_X6_part l dC dI ca ad hI M 5 zk_5 a0) (cwV 1 hts gX3_accountedFor_X6_part rfl rfl rfl (by decide +kernel) ⟨Nat.le_of_ble_eq_true rfl, Nat.le_of_ble_eq_true rfl⟩) (z_recv (ci := 6) (i := 5) hK hH zk_5 (by decide) rfl) hH hK hN zw_nest_ok rfl hl.1 rfl (Nat.le_of_ble_eq_true rfl) dX3_accountedFor_10 ⟨Nat.le_refl _, Nat.le_refl _⟩ hS (fun _ h => h) (fun H locs hB1 oq1 hz1 hS => ?_)
  have hH := hB1
  refine lv_topi (fun x2 ex2 => ?_)
  refine lv_iadd hx hb dX3_accountedFor_13 ?_
  refine lv_topi (fun x3 ex3 => ?_)
  refine lv_aload_n hx hb dX3_accountedFor_14 rfl (lv_at hl 0 rfl) ?_
  refine z_gr (D := (dC, dI)) (cl := vwCl) (C := RX3) (T := TX3) (N := 15) (ci := 3) (k := 6) hx hb hts hinX3 hown hK hH zk_0 (by decide) rfl (by decide) rfl (zr_0 (k := 6) (by decide)) (hts (.fieldLink RX3 52 "Steamfield$Land" "books" "LSteamfield$Books;") (by decide +kernel)) (fun _ h9 => h9) dX3_accountedFor_15 ?_
  refine z_grN (D := (dC, dI)) (cl := vwCl) (C := RX1) (T := TX1) (N := 5) (ci := 1) (k := 1) hx hb hts hinX1 hown hK hH zk_7 (by decide) rfl (by decide) rfl (zr_7 (k := 1) (by decide)) (hN (.fieldLinkNest RX3 133 "Steamfield$Books" "spilled" "LSteamfield$Water;" "Steamfield") (by decide +kernel)) (fun _ h9 => h9) dX3_accountedFor_18 ?_
  refine lv_iload_n hx hb dX3_accountedFor_21 rfl (lv_at hl 1 rfl) ?_
  refine z_cVi (D := (dC, dI)) (cl := vwCl) (tys := zt ca) (nw := zw_nest) (C := RX6) (As := [.int a0]) (rest := [.int x3]) ⟨hx, hb, hml, hown, hts⟩ (m_X6_part l dC dI ca ad hI M 12 zk_12 a0) (cwV 1 hts gX3_accountedFor_X6_part rfl rfl rfl (by decide +kernel) ⟨Nat.le_of_ble_eq_true rfl, Nat.le_of_ble_eq_true rfl⟩) (z_recv (ci := 6) (i := 12) hK hH zk_12 (by decide) rfl) hH hK hN zw_nest_ok rfl hl.1 rfl (Nat.le_of_ble_eq_true rfl) dX3_accountedFor_22 ⟨Nat.le_refl _, Nat.le_refl _⟩ hS (fun _ h => h) (fun H locs hB1 oq1 hz1 hS => ?_)
  have hH := hB1
  refine lv_topi (fun x4 ex4 => ?_)
  refine lv_iadd hx hb dX3_accountedFor_25 ?_
  refine lv_topi (fun x5 ex5 => ?_)
  refine lv_aload_n hx hb dX3_accountedFor_26 rfl (lv_at hl 0 rfl) ?_
  refine z_gr (D := (dC, dI)) (cl := vwCl) (C := RX3) (T := TX3) (N := 15) (ci := 3) (k := 6) hx hb hts hinX3 hown hK hH zk_0 (by decide) rfl (by decide) rfl (zr_0 (k := 6) (by decide)) (hts (.fieldLink RX3 52 "Steamfield$Land" "books" "LSteamfield$Books;") (by decide +kernel)) (fun _ h9 => h9) dX3_accountedFor_27 ?_
  refine z_grN (D := (dC, dI)) (cl := vwCl) (C := RX1) (T := TX1) (N := 5) (ci := 1) (k := 2) hx hb hts hinX1 hown hK hH zk_7 (by decide) rfl (by decide) rfl (zr_7 (k := 2) (by decide)) (hN (.fieldLinkNest RX3 136 "Steamfield$Books" "sprung" "LSteamfield$Water;" "Steamfield") (by decide +kernel)) (fun _ h9 => h9) dX3_accountedFor_30 ?_
  refine lv_iload_n hx hb dX3_accountedFor_33 rfl (lv_at hl 1 rfl) ?_
  refine z_cVi (D := (dC, dI)) (cl := vwCl) (tys := zt ca) (nw := zw_nest) (C := RX6) (As := [.int a0]) (rest := [.int x5]) ⟨hx, hb, hml, hown, hts⟩ (m_X6_part l dC dI ca ad hI M 13 zk_13 a0) (cwV 1 hts gX3_accountedFor_X6_part rfl rfl rfl (by decide +kernel) ⟨Nat.le_of_ble_eq_true rfl, Nat.le_of_ble_eq_true rfl⟩) (z_recv (ci := 6) (i := 13) hK hH zk_13 (by decide) rfl) hH hK hN zw_nest_ok rfl hl.1 rfl (Nat.le_of_ble_eq_true rfl) dX3_accountedFor_34 ⟨Nat.le_refl _, Nat.le_refl _⟩ hS (fun _ h => h) (fun H locs hB1 oq1 hz1 hS => ?_)
  have hH := hB1
  refine lv_topi (fun x6 ex6 => ?_)
  refine lv_iadd hx hb dX3_accountedFor_37 ?_
  refine lv_topi (fun x7 ex7 => ?_)
  have hR : x7 = rX3_accountedFor M a0 := by subst ex7; subst ex6; subst ex5; subst ex4; subst ex3; subst ex2; subst ex1; rfl
  exact W.iret (v := x7) hx hb hr (fun t ht hW => ⟨⟨x7, (), rfl, hR, z_to (B := fun H => zW dC dI ca ad M H) ht hH⟩, hS.F ht⟩) hS.2.2 dX3_accountedFor_38

set_option maxHeartbeats 4000000 in
set_option maxRecDepth 100000 in
theorem m_X8_needRange (l : Launch) (dC : Nat → ClassId) (dI : Nat → Nat → Nat) (ca : Nat → ClassId) (B : Heap → Prop)  (a0 : Int32) (a1 : Int32) (a2 : Int32) (h_rg : z_rg a0 a1 a2) : Met l yX8_needRange wsX8_needRange ({ frames := 0, cells := 0, slots := 0, locals := 0 }) (z_Pc (dC, dI) vwCl (zt ca) zw_nest [.int a0, .int a1, .int a2] (fun H => B H)) (z_Qv (fun H => B H) (fun _ => False)) 0 0 (fun _ => False) := by
  refine Met.ofW (cc := cX8_needRange) (maxL := 3) (ret := none) (by decide) rfl ?_
  intro p e s m args below meth c s₁ B9 hml hv
  obtain ⟨rfl, hB, hK, hN⟩ := hv
  have hx := B9.exec
  have hb := B9.bytes
  have hr := B9.returns
  have hts := atoms_spec (ws := wsX8_needRange) B9.pre
  have hown : s.vm.findClass RX8 = some m.cls := findClass_of_methodNamed B9.named
  have hlocks := B9.notSynchronized
  have hS : va_S (fun _ => False) s.heap s.heap [] := va_S.rf
  have hl := lv_entry ([.int a0, .int a1, .int a2]) (n := 3) (Nat.le_of_ble_eq_true rfl)
  rw [lg_entry_eq]
  generalize (lg_sl ([.int a0, .int a1, .int a2]) ++ List.replicate (3 - (lg_sl ([.int a0, .int a1, .int a2])).length) Slot.unset).toArray = ls at hl ⊢
  have hl : lv_has ls 3 [(0, .int a0), (1, .int a1), (2, .int a2)] := hl
  refine lv_iload_n hx hb dX8_needRange_0 rfl (lv_at hl 0 rfl) ?_
  refine lv_iload_n hx hb dX8_needRange_1 rfl (lv_at hl 1 rfl) ?_
  refine lv_icmp_lt (tgt := 10) hx hb dX8_needRange_2 (by decide) (fun c1 => ?_) (fun c1 => ?_)
  · exact absurd c1 h_rg.1
  · refine lv_iload_n hx hb dX8_needRange_5 rfl (lv_at hl 0 rfl) ?_
    refine lv_iload_n hx hb dX8_needRange_6 rfl (lv_at hl 2 rfl) ?_
    refine lv_icmp_le (tgt := 21) hx hb dX8_needRange_7 (by decide) (fun c2 => ?_) (fun c2 => ?_)
    · exact W.vret hx hb hr (fun t ht hW => ⟨⟨(), rfl, trivial, z_to (B := fun H => B H) ht hB⟩, hS.F ht⟩) hS.2.2 dX8_needRange_21
    · exact absurd (z_le_of h_rg.2) c2

set_option maxHeartbeats 4000000 in
set_option maxRecDepth 100000 in
theorem m_X8_needIndex (l : Launch) (dC : Nat → ClassId) (dI : Nat → Nat → Nat) (ca : Nat → ClassId) (B : Heap → Prop)  (a0 : Int32) (a1 : Int32) (h_ni : z_ni a0 a1) : Met l yX8_needIndex wsX8_needIndex ({ frames := 0, cells := 0, slots := 0, locals := 0 }) (z_Pc (dC, dI) vwCl (zt ca) zw_nest [.int a0, .int a1] (fun H => B H)) (z_Qv (fun H => B H) (fun _ => False)) 0 0 (fun _ => False) := by
  refine Met.ofW (cc := cX8_needIndex) (maxL := 2) (ret := none) (by decide) rfl ?_
  intro p e s m args below meth c s₁ B9 hml hv
  obtain ⟨rfl, hB, hK, hN⟩ := hv
  have hx := B9.exec
  have hb := B9.bytes
  have hr := B9.returns
  have hts := atoms_spec (ws := wsX8_needIndex) B9.pre
  have hown : s.vm.findClass RX8 = some m.cls := findClass_of_methodNamed B9.named
  have hlocks := B9.notSynchronized
  have hS : va_S (fun _ => False) s.heap s.heap [] := va_S.rf
  have hl := lv_entry ([.int a0, .int a1]) (n := 2) (Nat.le_of_ble_eq_true rfl)
  rw [lg_entry_eq]
  generalize (lg_sl ([.int a0, .int a1]) ++ List.replicate (2 - (lg_sl ([.int a0, .int a1])).length) Slot.unset).toArray = ls at hl ⊢
  have hl : lv_has ls 2 [(0, .int a0), (1, .int a1)] := hl
  refine lv_iload_n hx hb dX8_needIndex_0 rfl (lv_at hl 0 rfl) ?_
  refine lv_if_lt (tgt := 9) hx hb dX8_needIndex_1 (by decide) (fun c1 => ?_) (fun c1 => ?_)
  · exact absurd c1 h_ni.1
  · refine lv_iload_n hx hb dX8_needIndex_4 rfl (lv_at hl 0 rfl) ?_
    refine lv_iload_n hx hb dX8_needIndex_5 rfl (lv_at hl 1 rfl) ?_
    refine lv_icmp_lt (tgt := 20) hx hb dX8_needIndex_6 (by decide) (fun c2 => ?_) (fun c2 => ?_)
    · exact W.vret hx hb hr (fun t ht hW => ⟨⟨(), rfl, trivial, z_to (B := fun H => B H) ht hB⟩, hS.F ht⟩) hS.2.2 dX8_needIndex_20
    · exact absurd (z_lt_of h_ni.2) c2

set_option maxHeartbeats 4000000 in
set_option maxRecDepth 100000 in
theorem m_X8_needRoom (l : Launch) (dC : Nat → ClassId) (dI : Nat → Nat → Nat) (ca : Nat → ClassId) (B : Heap → Prop)  (a0 : Int32) (a1 : Int32) (h_rm : z_rm a0 a1) : Met l yX8_needRoom wsX8_needRoom ({ frames := 0, cells := 0, slots := 0, locals := 0 }) (z_Pc (dC, dI) vwCl (zt ca) zw_nest [.int a0, .int a1] (fun H => B H)) (z_Qv (fun H => B H) (fun _ => False)) 0 0 (fun _ => False) := by
  refine Met.ofW (cc := cX8_needRoom) (maxL := 2) (ret := none) (by decide) rfl ?_
  intro p e s m args below meth c s₁ B9 hml hv
  obtain ⟨rfl, hB, hK, hN⟩ := hv
  have hx := B9.exec
  have hb := B9.bytes
  have hr := B9.returns
  have hts := atoms_spec (ws := wsX8_needRoom) B9.pre
  have hown : s.vm.findClass RX8 = some m.cls := findClass_of_methodNamed B9.named
  have hlocks := B9.notSynchronized
  have hS : va_S (fun _ => False) s.heap s.heap [] := va_S.rf
  have hl := lv_entry ([.int a0, .int a1]) (n := 2) (Nat.le_of_ble_eq_true rfl)
  rw [lg_entry_eq]
  generalize (lg_sl ([.int a0, .int a1]) ++ List.replicate (2 - (lg_sl ([.int a0, .int a1])).length) Slot.unset).toArray = ls at hl ⊢
  have hl : lv_has ls 2 [(0, .int a0), (1, .int a1)] := hl
  refine lv_iload_n hx hb dX8_needRoom_0 rfl (lv_at hl 0 rfl) ?_
  refine lv_iload_n hx hb dX8_needRoom_1 rfl (lv_at hl 1 rfl) ?_
  refine lv_icmp_lt (tgt := 16) hx hb dX8_needRoom_2 (by decide) (fun c1 => ?_) (fun c1 => ?_)
  · exact W.vret hx hb hr (fun t ht hW => ⟨⟨(), rfl, trivial, z_to (B := fun H => B H) ht hB⟩, hS.F ht⟩) hS.2.2 dX8_needRoom_16
  · exact absurd (z_lt_of h_rm) c1

