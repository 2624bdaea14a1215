def bX3_shareOf_4 (M : zM) (a0 : Int32) (k1 : Nat) (st : Int32) : Int32 :=
  let a4 : Int32 := st
  let i2 : Int32 := nI k1
  let x6 : Int32 := M 0 10
  let x8 : Int32 := M (20 + k1) 2
  let x10 : Int32 := if ¬ x8 = a0 then a4 else (let x10 : Int32 := M (20 + k1) 1; let x11 : Int32 := a4 + x10; x11)
  x10
def rX3_shareOf (M : zM) (a0 : Int32) : Int32 :=
  let a4 : Int32 := (zit (bX3_shareOf_4 M a0) (zc10 M) 0)
  a4
set_option maxHeartbeats 4000000 in
set_option maxRecDepth 100000 in
theorem m_X3_shareOf (l : Launch) (dC : Nat → ClassId) (dI : Nat → Nat → Nat) (ca : Nat → ClassId) (ad : Nat → Nat) (hI : z_I zd ad) (M : zM) (a0 : Int32) (hOk0 : z_Ok M) : Met l yX3_shareOf wsX3_shareOf ({ frames := 0, cells := 0, slots := 0, locals := 0 }) (z_Pc (dC, dI) vwCl (zt ca) zw_nest [.ref (ad 0), .int a0] (fun H => zW dC dI ca ad M H)) (z_Qi (rX3_shareOf M a0) (fun H => zW dC dI ca ad M H) (z_A zd ad)) 0 0 (z_A zd ad) := by
  refine Met.ofW (cc := cX3_shareOf) (maxL := 4) (ret := (some .int)) (by decide) rfl ?_
  intro p e s m args below meth c s₁ B9 hml hv
  obtain ⟨rfl, hH, hK, hN⟩ := hv
  have hx := B9.exec
  have hb := B9.bytes
  have hr := B9.returns
  have hts := atoms_spec (ws := wsX3_shareOf) B9.pre
  have hown : s.vm.findClass RX3 = some m.cls := findClass_of_methodNamed B9.named
  have hlocks := B9.notSynchronized
  have hS : va_S (z_A zd ad) s.heap s.heap [] := va_S.rf
  have hOk := hOk0
  have hFx : z_Fx M M := z_Fx.rf
  have hH : zW dC dI ca ad M s.heap := hH
  have hinX0 : ∀ w ∈ u_ws RX0 TX0 3, w ∈ wsX3_shareOf := by decide +kernel
  have hinX3 : ∀ w ∈ u_ws RX3 TX3 15, w ∈ wsX3_shareOf := by decide +kernel
  have hl := lv_entry ([.ref (ad 0), .int a0]) (n := 4) (Nat.le_of_ble_eq_true rfl)
  rw [lg_entry_eq]
  generalize (lg_sl ([.ref (ad 0), .int a0]) ++ List.replicate (4 - (lg_sl ([.ref (ad 0), .int a0])).length) Slot.unset).toArray = ls at hl ⊢
  have hl : lv_has ls 4 [(0, .ref (ad 0)), (1, .int a0)] := hl
  refine lv_iconst (v := 0) hx hb dX3_shareOf_0 (by decide) ?_
  refine lv_istore_n (lv' := [(2, .int 0), (0, .ref (ad 0)), (1, .int a0)]) hx hb dX3_shareOf_1 rfl hl (by decide) rfl (fun ls hl => ?_)
  refine lv_iconst (v := 0) hx hb dX3_shareOf_2 (by decide) ?_
  refine lv_istore_n (lv' := [(3, .int 0), (2, .int 0), (0, .ref (ad 0)), (1, .int a0)]) hx hb dX3_shareOf_3 rfl hl (by decide) rfl (fun ls hl => ?_)
  have L5 : ∀ (d3 k1 : Nat), k1 ≤ zc10 M → zc10 M - k1 < d3 → ∀ a4 : Int32, a4 = zit (bX3_shareOf_4 M a0) k1 0 → ∀ i2 : Int32, i2 = nI k1 → ∀ ls : Array Slot, lv_has ls 4 [(0, .ref (ad 0)), (1, .int a0), (2, .int a4), (3, .int i2)] → W p l e (headSpec wsX3_shareOf ({ frames := 0, cells := 0, slots := 0, locals := 0 })).room s m ([.ref (ad 0), .int a0] : List Value).toArray below meth c s.heap [] 0 0 (MQ below (z_Qi (rX3_shareOf M a0) (fun H => zW dC dI ca ad M H) (z_A zd ad)) ([.ref (ad 0), .int a0] : List Value).toArray s 0 0 (z_A zd ad)) (F0 m 4 ls []) := by
    intro d3
    induction d3 with
    | zero => intro k1 hk1 hd; exact absurd hd (by omega)
    | succ d3 ihk1 =>
      intro k1 hk1 hd a4 esk1 i2 ei2 ls hl
      refine lv_iload_n hx hb dX3_shareOf_4 rfl (lv_at hl 3 rfl) ?_
      refine lv_aload_n hx hb dX3_shareOf_5 rfl (lv_at hl 0 rfl) ?_
      refine z_gi (D := (dC, dI)) (cl := vwCl) (C := RX3) (T := TX3) (N := 15) (ci := 3) (k := 10) hx hb hts hinX3 hown hK hH zk_0 (by decide) rfl (by decide) rfl (hts (.fieldLink RX3 98 "Steamfield$Land" "blockCount" "I") (by decide +kernel)) (fun _ h9 => h9) dX3_shareOf_6 ?_
      refine lv_topi (fun x6 ex6 => ?_)
      have hx6 : x6 = nI (zc10 M) := by rw [ex6, hFx.c10]; exact z_Ok.c10 hOk0
      refine lv_icmp_ge (tgt := 43) hx hb dX3_shareOf_9 (by decide) (fun c7 => ?_) (fun c7 => ?_)
      · have hkk1 : k1 = zc10 M := z_ge hx6 ei2 hk1 (Nat.lt_of_le_of_lt (z_Ok.n10 hOk0) (by decide)) c7
        have qa4 : a4 = (zit (bX3_shareOf_4 M a0) (zc10 M) 0) := by rw [← hkk1, ← esk1]
        refine lv_iload_n hx hb dX3_shareOf_43 rfl (lv_at hl 2 rfl) ?_
        have hR : a4 = rX3_shareOf M a0 := by subst qa4; rfl
        exact W.iret (v := a4) hx hb hr (fun t ht hW => ⟨⟨a4, (), rfl, hR, z_to (B := fun H => zW dC dI ca ad M H) ht hH⟩, hS.F ht⟩) hS.2.2 dX3_shareOf_44
      · have hkk1 : k1 < zc10 M := z_lt hx6 ei2 hk1 (Nat.lt_of_le_of_lt (z_Ok.n10 hOk0) (by decide)) c7
        refine lv_aload_n hx hb dX3_shareOf_12 rfl (lv_at hl 0 rfl) ?_
        refine z_gr (D := (dC, dI)) (cl := vwCl) (C := RX3) (T := TX3) (N := 15) (ci := 3) (k := 0) hx hb hts hinX3 hown hK hH zk_0 (by decide) rfl (by decide) rfl (zr_0 (k := 0) (by decide)) (hts (.fieldLink RX3 11 "Steamfield$Land" "blocks" "[LSteamfield$Block;") (by decide +kernel)) (fun _ h9 => h9) dX3_shareOf_13 ?_
        refine lv_iload_n hx hb dX3_shareOf_16 rfl (lv_at hl 3 rfl) ?_
        refine z_aq (t0 := 1) (D := (dC, dI)) (cl := vwCl) (tys := zt ca) hx hb hK hH zk_1 (by decide) (by decide) rfl (show vp_in i2 8 from (zx ei2 (Nat.lt_of_lt_of_le hkk1 (z_Ok.n10 hOk0)) (by decide))) (show zr 1 (i2 : Int32).toNatClampNeg = some (20 + k1) from by rw [zx_n ei2 (Nat.lt_trans (Nat.lt_of_lt_of_le hkk1 (z_Ok.n10 hOk0)) (by decide : 8 < 2 ^ 31))]; exact zr_1 (Nat.lt_of_lt_of_le hkk1 (z_Ok.n10 hOk0))) dX3_shareOf_17 ?_
        refine z_giN (D := (dC, dI)) (cl := vwCl) (C := RX0) (T := TX0) (N := 3) (ci := 0) (k := 2) hx hb hts hinX0 hown hK hH (zk_b (Nat.lt_of_lt_of_le hkk1 (z_Ok.n10 hOk0))) (by decide) rfl (by decide) rfl (hN (.fieldLinkNest RX3 114 "Steamfield$Block" "owner" "I" "Steamfield") (by decide +kernel)) (fun _ h9 => h9) dX3_shareOf_18 ?_
        refine lv_topi (fun x8 ex8 => ?_)
        have hx8 : z_ix x8 2 := by rw [ex8]; exact z_Ok.owner hOk (Nat.lt_of_lt_of_le hkk1 (z_Ok.n10 hOk0))
        refine lv_iload_n hx hb dX3_shareOf_21 rfl (lv_at hl 1 rfl) ?_
        have J11 : ∀ x10 : Int32, x10 = (if ¬ x8 = a0 then a4 else (let x10 : Int32 := M (20 + k1) 1; let x11 : Int32 := a4 + x10; x11)) → ∀ ls : Array Slot, lv_has ls 4 [(0, .ref (ad 0)), (1, .int a0), (2, .int x10), (3, .int i2)] → W p l e (headSpec wsX3_shareOf ({ frames := 0, cells := 0, slots := 0, locals := 0 })).room s m ([.ref (ad 0), .int a0] : List Value).toArray below meth c s.heap [] 0 0 (MQ below (z_Qi (rX3_shareOf M a0) (fun H => zW dC dI ca ad M H) (z_A zd ad)) ([.ref (ad 0), .int a0] : List Value).toArray s 0 0 (z_A zd ad)) (F0 m 37 ls []) := by
          intro x10 ex10 ls hl
          obtain ⟨x12, ex12⟩ : ∃ z : Int32, z = i2 + 1 := ⟨_, rfl⟩
          refine lv_iinc (v := x12) (lv' := [(3, .int x12), (0, .ref (ad 0)), (1, .int a0), (2, .int x10)]) hx hb dX3_shareOf_37 hl (k := 3) rfl (by rw [ex12]; rfl) (by decide) rfl (fun ls hl => ?_)
          refine lv_goto (tgt := 4) hx hb dX3_shareOf_40 (by decide) ?_
          exact ihk1 (k1 + 1) hkk1 (by omega) x10 (by rw [zit_s, ← esk1]; subst ex12; subst ex10; subst ex8; subst ex6; subst ei2; rfl) x12 (z_nx ei2 ex12) ls (lv_sub hl [1, 2, 3, 0] rfl)
        refine lv_icmp_ne (tgt := 37) hx hb dX3_shareOf_22 (by decide) (fun c9 => ?_) (fun c9 => ?_)
        · exact J11 _ (by exact (if_pos c9).symm) ls (lv_sub hl [0, 1, 2, 3] rfl)
        · refine lv_iload_n hx hb dX3_shareOf_25 rfl (lv_at hl 2 rfl) ?_
          refine lv_aload_n hx hb dX3_shareOf_26 rfl (lv_at hl 0 rfl) ?_
          refine z_gr (D := (dC, dI)) (cl := vwCl) (C := RX3) (T := TX3) (N := 15) (ci := 3) (k := 0) hx hb hts hinX3 hown hK hH zk_0 (by decide) rfl (by decide) rfl (zr_0 (k := 0) (by decide)) (hts (.fieldLink RX3 11 "Steamfield$Land" "blocks" "[LSteamfield$Block;") (by decide +kernel)) (fun _ h9 => h9) dX3_shareOf_27 ?_
          refine lv_iload_n hx hb dX3_shareOf_30 rfl (lv_at hl 3 rfl) ?_
          refine z_aq (t0 := 1) (D := (dC, dI)) (cl := vwCl) (tys := zt ca) hx hb hK hH zk_1 (by decide) (by decide) rfl (show vp_in i2 8 from (zx ei2 (Nat.lt_of_lt_of_le hkk1 (z_Ok.n10 hOk0)) (by decide))) (show zr 1 (i2 : Int32).toNatClampNeg = some (20 + k1) from by rw [zx_n ei2 (Nat.lt_trans (Nat.lt_of_lt_of_le hkk1 (z_Ok.n10 hOk0)) (by decide : 8 < 2 ^ 31))]; exact zr_1 (Nat.lt_of_lt_of_le hkk1 (z_Ok.n10 hOk0))) dX3_shareOf_31 ?_
          refine z_giN (D := (dC, dI)) (cl := vwCl) (C := RX0) (T := TX0) (N := 3) (ci := 0) (k := 1) hx hb hts hinX0 hown hK hH (zk_b (Nat.lt_of_lt_of_le hkk1 (z_Ok.n10 hOk0))) (by decide) rfl (by decide) rfl (hN (.fieldLinkNest RX3 117 "Steamfield$Block" "volume" "I" "Steamfield") (by decide +kernel)) (fun _ h9 => h9) dX3_shareOf_32 ?_
          refine lv_topi (fun x10 ex10 => ?_)
          refine lv_iadd hx hb dX3_shareOf_35 ?_
          refine lv_topi (fun x11 ex11 => ?_)
          refine lv_istore_n (lv' := [(2, .int x11), (0, .ref (ad 0)), (1, .int a0), (3, .int i2)]) hx hb dX3_shareOf_36 rfl hl (by decide) rfl (fun ls hl => ?_)
          exact J11 _ (by subst ex11; subst ex10; exact (if_neg (fun hh => hh c9)).symm) ls (lv_sub hl [1, 2, 0, 3] rfl)
  exact L5 (zc10 M + 1) 0 (Nat.zero_le _) (by omega) 0 (zit_0 _ _).symm _ rfl ls (lv_sub hl [2, 3, 1, 0] rfl)

def bX3_lackedEver_4 (M : zM) (k1 : Nat) (st : Int32) : Int32 :=
  let a4 : Int32 := st
  let i2 : Int32 := nI k1
  let x6 : Int32 := M 0 13
  let x8 : Int32 := M (70 + k1) 6
  let x9 : Int32 := a4 + x8
  x9
def rX3_lackedEver (M : zM)  : Int32 :=
  let a4 : Int32 := (zit (bX3_lackedEver_4 M) (zc13 M) 0)
  a4
set_option maxHeartbeats 4000000 in
set_option maxRecDepth 100000 in
theorem m_X3_lackedEver (l : Launch) (dC : Nat → ClassId) (dI : Nat → Nat → Nat) (ca : Nat → ClassId) (ad : Nat → Nat) (hI : z_I zd ad) (M : zM) (hOk0 : z_Ok M) : Met l yX3_lackedEver wsX3_lackedEver ({ frames := 0, cells := 0, slots := 0, locals := 0 }) (z_Pc (dC, dI) vwCl (zt ca) zw_nest [.ref (ad 0)] (fun H => zW dC dI ca ad M H)) (z_Qi (rX3_lackedEver M ) (fun H => zW dC dI ca ad M H) (z_A zd ad)) 0 0 (z_A zd ad) := by
  refine Met.ofW (cc := cX3_lackedEver) (maxL := 3) (ret := (some .int)) (by decide) rfl ?_
  intro p e s m args below meth c s₁ B9 hml hv
  obtain ⟨rfl, hH, hK, hN⟩ := hv
  have hx := B9.exec
  have hb := B9.bytes
  have hr := B9.returns
  have hts := atoms_spec (ws := wsX3_lackedEver) B9.pre
  have hown : s.vm.findClass RX3 = some m.cls := findClass_of_methodNamed B9.named
  have hlocks := B9.notSynchronized
  have hS : va_S (z_A zd ad) s.heap s.heap [] := va_S.rf
  have hOk := hOk0
  have hFx : z_Fx M M := z_Fx.rf
  have hH : zW dC dI ca ad M s.heap := hH
  have hinX3 : ∀ w ∈ u_ws RX3 TX3 15, w ∈ wsX3_lackedEver := by decide +kernel
  have hinX5 : ∀ w ∈ u_ws RX5 TX5 7, w ∈ wsX3_lackedEver := by decide +kernel
  have hl := lv_entry ([.ref (ad 0)]) (n := 3) (Nat.le_of_ble_eq_true rfl)
  rw [lg_entry_eq]
  generalize (lg_sl ([.ref (ad 0)]) ++ List.replicate (3 - (lg_sl ([.ref (ad 0)])).length) Slot.unset).toArray = ls at hl ⊢
  have hl : lv_has ls 3 [(0, .ref (ad 0))] := hl
  refine lv_iconst (v := 0) hx hb dX3_lackedEver_0 (by decide) ?_
  refine lv_istore_n (lv' := [(1, .int 0), (0, .ref (ad 0))]) hx hb dX3_lackedEver_1 rfl hl (by decide) rfl (fun ls hl => ?_)
  refine lv_iconst (v := 0) hx hb dX3_lackedEver_2 (by decide) ?_
  refine lv_istore_n (lv' := [(2, .int 0), (1, .int 0), (0, .ref (ad 0))]) hx hb dX3_lackedEver_3 rfl hl (by decide) rfl (fun ls hl => ?_)
  have L5 : ∀ (d3 k1 : Nat), k1 ≤ zc13 M → zc13 M - k1 < d3 → ∀ a4 : Int32, a4 = zit (bX3_lackedEver_4 M) k1 0 → ∀ i2 : Int32, i2 = nI k1 → ∀ ls : Array Slot, lv_has ls 3 [(0, .ref (ad 0)), (1, .int a4), (2, .int i2)] → W p l e (headSpec wsX3_lackedEver ({ frames := 0, cells := 0, slots := 0, locals := 0 })).room s m ([.ref (ad 0)] : List Value).toArray below meth c s.heap [] 0 0 (MQ below (z_Qi (rX3_lackedEver M ) (fun H => zW dC dI ca ad M H) (z_A zd ad)) ([.ref (ad 0)] : List Value).toArray s 0 0 (z_A zd ad)) (F0 m 4 ls []) := by
    intro d3
    induction d3 with
    | zero => intro k1 hk1 hd; exact absurd hd (by omega)
    | succ d3 ihk1 =>
      intro k1 hk1 hd a4 esk1 i2 ei2 ls hl
      refine lv_iload_n hx hb dX3_lackedEver_4 rfl (lv_at hl 2 rfl) ?_
      refine lv_aload_n hx hb dX3_lackedEver_5 rfl (lv_at hl 0 rfl) ?_
      refine z_gi (D := (dC, dI)) (cl := vwCl) (C := RX3) (T := TX3) (N := 15) (ci := 3) (k := 13) hx hb hts hinX3 hown hK hH zk_0 (by decide) rfl (by decide) rfl (hts (.fieldLink RX3 108 "Steamfield$Land" "springCount" "I") (by decide +kernel)) (fun _ h9 => h9) dX3_lackedEver_6 ?_
      refine lv_topi (fun x6 ex6 => ?_)
      have hx6 : x6 = nI (zc13 M) := by rw [ex6, hFx.c13]; exact z_Ok.c13 hOk0
      refine lv_icmp_ge (tgt := 30) hx hb dX3_lackedEver_9 (by decide) (fun c7 => ?_) (fun c7 => ?_)
      · have hkk1 : k1 = zc13 M := z_ge hx6 ei2 hk1 (Nat.lt_of_le_of_lt (z_Ok.n13 hOk0) (by decide)) c7
        have qa4 : a4 = (zit (bX3_lackedEver_4 M) (zc13 M) 0) := by rw [← hkk1, ← esk1]
        refine lv_iload_n hx hb dX3_lackedEver_30 rfl (lv_at hl 1 rfl) ?_
        have hR : a4 = rX3_lackedEver M  := by subst qa4; rfl
        exact W.iret (v := a4) hx hb hr (fun t ht hW => ⟨⟨a4, (), rfl, hR, z_to (B := fun H => zW dC dI ca ad M H) ht hH⟩, hS.F ht⟩) hS.2.2 dX3_lackedEver_31
      · have hkk1 : k1 < zc13 M := z_lt hx6 ei2 hk1 (Nat.lt_of_le_of_lt (z_Ok.n13 hOk0) (by decide)) c7
        refine lv_iload_n hx hb dX3_lackedEver_12 rfl (lv_at hl 1 rfl) ?_
        refine lv_aload_n hx hb dX3_lackedEver_13 rfl (lv_at hl 0 rfl) ?_
        refine z_gr (D := (dC, dI)) (cl := vwCl) (C := RX3) (T := TX3) (N := 15) (ci := 3) (k := 3) hx hb hts hinX3 hown hK hH zk_0 (by decide) rfl (by decide) rfl (zr_0 (k := 3) (by decide)) (hts (.fieldLink RX3 31 "Steamfield$Land" "springs" "[LSteamfield$Spring;") (by decide +kernel)) (fun _ h9 => h9) dX3_lackedEver_14 ?_
        refine lv_iload_n hx hb dX3_lackedEver_17 rfl (lv_at hl 2 rfl) ?_
        refine z_aq (t0 := 4) (D := (dC, dI)) (cl := vwCl) (tys := zt ca) hx hb hK hH zk_4 (by decide) (by decide) rfl (show vp_in i2 3 from (zx ei2 (Nat.lt_of_lt_of_le hkk1 (z_Ok.n13 hOk0)) (by decide))) (show zr 4 (i2 : Int32).toNatClampNeg = some (70 + k1) from by rw [zx_n ei2 (Nat.lt_trans (Nat.lt_of_lt_of_le hkk1 (z_Ok.n13 hOk0)) (by decide : 3 < 2 ^ 31))]; exact zr_4 (Nat.lt_of_lt_of_le hkk1 (z_Ok.n13 hOk0))) dX3_lackedEver_18 ?_
        refine z_giN (D := (dC, dI)) (cl := vwCl) (C := RX5) (T := TX5) (N := 7) (ci := 5) (k := 6) hx hb hts hinX5 hown hK hH (zk_s (Nat.lt_of_lt_of_le hkk1 (z_Ok.n13 hOk0))) (by decide) rfl (by decide) rfl (hN (.fieldLinkNest RX3 120 "Steamfield$Spring" "lackedEver" "I" "Steamfield") (by decide +kernel)) (fun _ h9 => h9) dX3_lackedEver_19 ?_
        refine lv_topi (fun x8 ex8 => ?_)
        refine lv_iadd hx hb dX3_lackedEver_22 ?_
        refine lv_topi (fun x9 ex9 => ?_)
        refine lv_istore_n (lv' := [(1, .int x9), (0, .ref (ad 0)), (2, .int i2)]) hx hb dX3_lackedEver_23 rfl hl (by decide) rfl (fun ls hl => ?_)
        obtain ⟨x10, ex10⟩ : ∃ z : Int32, z = i2 + 1 := ⟨_, rfl⟩
        refine lv_iinc (v := x10) (lv' := [(2, .int x10), (1, .int x9), (0, .ref (ad 0))]) hx hb dX3_lackedEver_24 hl (k := 2) rfl (by rw [ex10]; rfl) (by decide) rfl (fun ls hl => ?_)
        refine lv_goto (tgt := 4) hx hb dX3_lackedEver_27 (by decide) ?_
        exact ihk1 (k1 + 1) hkk1 (by omega) x9 (by rw [zit_s, ← esk1]; subst ex10; subst ex9; subst ex8; subst ex6; subst ei2; rfl) x10 (z_nx ei2 ex10) ls (lv_sub hl [2, 1, 0] rfl)
  exact L5 (zc13 M + 1) 0 (Nat.zero_le _) (by omega) 0 (zit_0 _ _).symm _ rfl ls (lv_sub hl [2, 1, 0] rfl)

def bX3_turnAll_2 (a0 : Int32) (a1 : Int32) (k1 : Nat) (st : zM) : zM :=
  let M4 : zM := st
  let i2 : Int32 := nI k1
  let x6 : Int32 := M4 0 12
  let x8 : Int32 := M4 (60 + k1) 1
  let x10 : Int32 := if x8 = 0 then a0 else a1
  let M12 : zM := zu M4 (60 + k1) 2 x10
  M12
def fX3_turnAll (M : zM) (a0 : Int32) (a1 : Int32) : zM :=
  let M4 : zM := (zit (bX3_turnAll_2 a0 a1) (zc12 M) M)
  M4
set_option maxHeartbeats 4000000 in
set_option maxRecDepth 100000 in
theorem m_X3_turnAll (l : Launch) (dC : Nat → ClassId) (dI : Nat → Nat → Nat) (ca : Nat → ClassId) (ad : Nat → Nat) (hI : z_I zd ad) (M : zM) (a0 : Int32) (a1 : Int32) (hOk0 : z_Ok M) : Met l yX3_turnAll wsX3_turnAll ({ frames := 0, cells := 0, slots := 0, locals := 0 }) (z_Pc (dC, dI) vwCl (zt ca) zw_nest [.ref (ad 0), .int a0, .int a1] (fun H => zW dC dI ca ad M H)) (z_Qv (fun H => zW dC dI ca ad (fX3_turnAll M a0 a1) H ∧ z_Fx M (fX3_turnAll M a0 a1)) (z_A zd ad)) 0 0 (z_A zd ad) := by
  refine Met.ofW (cc := cX3_turnAll) (maxL := 4) (ret := none) (by decide) rfl ?_
  intro p e s m args below meth c s₁ B9 hml hv
  obtain ⟨rfl, hH, hK, hN⟩ := hv
  have hx := B9.exec
  have hb := B9.bytes
  have hr := B9.returns
  have hts := atoms_spec (ws := wsX3_turnAll) B9.pre
  have hown : s.vm.findClass RX3 = some m.cls := findClass_of_methodNamed B9.named
  have hlocks := B9.notSynchronized
  have hS : va_S (z_A zd ad) s.heap s.heap [] := va_S.rf
  have hOk := hOk0
  have hFx : z_Fx M M := z_Fx.rf
  have hH : zW dC dI ca ad M s.heap := hH
  have hinX3 : ∀ w ∈ u_ws RX3 TX3 15, w ∈ wsX3_turnAll := by decide +kernel
  have hinX7 : ∀ w ∈ u_ws RX7 TX7 9, w ∈ wsX3_turnAll := by decide +kernel
  have hl := lv_entry ([.ref (ad 0), .int a0, .int a1]) (n := 4) (Nat.le_of_ble_eq_true rfl)
  rw [lg_entry_eq]
  generalize (lg_sl ([.ref (ad 0), .int a0, .int a1]) ++ List.replicate (4 - (lg_sl ([.ref (ad 0), .int a0, .int a1])).length) Slot.unset).toArray = ls at hl ⊢
  have hl : lv_has ls 4 [(0, .ref (ad 0)), (1, .int a0), (2, .int a1)] := hl
  refine lv_iconst (v := 0) hx hb dX3_turnAll_0 (by decide) ?_
  refine lv_istore_n (lv' := [(3, .int 0), (0, .ref (ad 0)), (1, .int a0), (2, .int a1)]) hx hb dX3_turnAll_1 rfl hl (by decide) rfl (fun ls hl => ?_)
  have L5 : ∀ (d3 k1 : Nat), k1 ≤ zc12 M → zc12 M - k1 < d3 → ∀ M4 : zM, M4 = zit (bX3_turnAll_2 a0 a1) k1 M → ∀ i2 : Int32, i2 = nI k1 → ∀ ls : Array Slot, lv_has ls 4 [(0, .ref (ad 0)), (1, .int a0), (2, .int a1), (3, .int i2)] → ∀ (H : Heap) (locs : List Loc), zW dC dI ca ad M4 H → z_Fx M M4 → va_S (z_A zd ad) s.heap H locs → W p l e (headSpec wsX3_turnAll ({ frames := 0, cells := 0, slots := 0, locals := 0 })).room s m ([.ref (ad 0), .int a0, .int a1] : List Value).toArray below meth c H locs 0 0 (MQ below (z_Qv (fun H => zW dC dI ca ad (fX3_turnAll M a0 a1) H ∧ z_Fx M (fX3_turnAll M a0 a1)) (z_A zd ad)) ([.ref (ad 0), .int a0, .int a1] : List Value).toArray s 0 0 (z_A zd ad)) (F0 m 2 ls []) := by
    intro d3
    induction d3 with
    | zero => intro k1 hk1 hd; exact absurd hd (by omega)
    | succ d3 ihk1 =>
      intro k1 hk1 hd M4 esk1 i2 ei2 ls hl H locs hH hFx hS
      have hOk : z_Ok M4 := hOk0.fx hFx
      refine lv_iload_n hx hb dX3_turnAll_2 rfl (lv_at hl 3 rfl) ?_
      refine lv_aload_n hx hb dX3_turnAll_3 rfl (lv_at hl 0 rfl) ?_
      refine z_gi (D := (dC, dI)) (cl := vwCl) (C := RX3) (T := TX3) (N := 15) (ci := 3) (k := 12) hx hb hts hinX3 hown hK hH zk_0 (by decide) rfl (by decide) rfl (hts (.fieldLink RX3 105 "Steamfield$Land" "wellCount" "I") (by decide +kernel)) (fun _ h9 => h9) dX3_turnAll_4 ?_
      refine lv_topi (fun x6 ex6 => ?_)
      have hx6 : x6 = nI (zc12 M) := by rw [ex6, hFx.c12]; exact z_Ok.c12 hOk0
      refine lv_icmp_ge (tgt := 42) hx hb dX3_turnAll_7 (by decide) (fun c7 => ?_) (fun c7 => ?_)
      · have hkk1 : k1 = zc12 M := z_ge hx6 ei2 hk1 (Nat.lt_of_le_of_lt (z_Ok.n12 hOk0) (by decide)) c7
        have qM4 : M4 = (zit (bX3_turnAll_2 a0 a1) (zc12 M) M) := by rw [← hkk1, ← esk1]
        have hF0 : zW dC dI ca ad (fX3_turnAll M a0 a1) H := by
          have e9 : M4 = (fX3_turnAll M a0 a1) := by subst qM4; rfl
          rw [← e9]; exact hH
        have hFF : z_Fx M (fX3_turnAll M a0 a1) := by
          have e9 : M4 = (fX3_turnAll M a0 a1) := by subst qM4; rfl
          rw [← e9]; exact hFx
        exact W.vret hx hb hr (fun t ht hW => ⟨⟨(), rfl, trivial, z_to (B := fun H => zW dC dI ca ad (fX3_turnAll M a0 a1) H ∧ z_Fx M (fX3_turnAll M a0 a1)) ht ⟨hF0, hFF⟩⟩, hS.F ht⟩) hS.2.2 dX3_turnAll_42
      · have hkk1 : k1 < zc12 M := z_lt hx6 ei2 hk1 (Nat.lt_of_le_of_lt (z_Ok.n12 hOk0) (by decide)) c7
        refine lv_aload_n hx hb dX3_turnAll_10 rfl (lv_at hl 0 rfl) ?_
        refine z_gr (D := (dC, dI)) (cl := vwCl) (C := RX3) (T := TX3) (N := 15) (ci := 3) (k := 2) hx hb hts hinX3 hown hK hH zk_0 (by decide) rfl (by decide) rfl (zr_0 (k := 2) (by decide)) (hts (.fieldLink RX3 25 "Steamfield$Land" "wells" "[LSteamfield$Well;") (by decide +kernel)) (fun _ h9 => h9) dX3_turnAll_11 ?_
        refine lv_iload_n hx hb dX3_turnAll_14 rfl (lv_at hl 3 rfl) ?_
        refine z_aq (t0 := 3) (D := (dC, dI)) (cl := vwCl) (tys := zt ca) hx hb hK hH zk_3 (by decide) (by decide) rfl (show vp_in i2 6 from (zx ei2 (Nat.lt_of_lt_of_le hkk1 (z_Ok.n12 hOk0)) (by decide))) (show zr 3 (i2 : Int32).toNatClampNeg = some (60 + k1) from by rw [zx_n ei2 (Nat.lt_trans (Nat.lt_of_lt_of_le hkk1 (z_Ok.n12 hOk0)) (by decide : 6 < 2 ^ 31))]; exact zr_3 (Nat.lt_of_lt_of_le hkk1 (z_Ok.n12 hOk0))) dX3_turnAll_15 ?_
        refine lv_aload_n hx hb dX3_turnAll_16 rfl (lv_at hl 0 rfl) ?_
        refine z_gr (D := (dC, dI)) (cl := vwCl) (C := RX3) (T := TX3) (N := 15) (ci := 3) (k := 2) hx hb hts hinX3 hown hK hH zk_0 (by decide) rfl (by decide) rfl (zr_0 (k := 2) (by decide)) (hts (.fieldLink RX3 25 "Steamfield$Land" "wells" "[LSteamfield$Well;") (by decide +kernel)) (fun _ h9 => h9) dX3_turnAll_17 ?_
        refine lv_iload_n hx hb dX3_turnAll_20 rfl (lv_at hl 3 rfl) ?_
        refine z_aq (t0 := 3) (D := (dC, dI)) (cl := vwCl) (tys := zt ca) hx hb hK hH zk_3 (by decide) (by decide) rfl (show vp_in i2 6 from (zx ei2 (Nat.lt_of_lt_of_le hkk1 (z_Ok.n12 hOk0)) (by decide))) (show zr 3 (i2 : Int32).toNatClampNeg = some (60 + k1) from by rw [zx_n ei2 (Nat.lt_trans (Nat.lt_of_lt_of_le hkk1 (z_Ok.n12 hOk0)) (by decide : 6 < 2 ^ 31))]; exact zr_3 (Nat.lt_of_lt_of_le hkk1 (z_Ok.n12 hOk0))) dX3_turnAll_21 ?_
        refine z_giN (D := (dC, dI)) (cl := vwCl) (C := RX7) (T := TX7) (N := 9) (ci := 7) (k := 1) hx hb hts hinX7 hown hK hH (zk_v (Nat.lt_of_lt_of_le hkk1 (z_Ok.n12 hOk0))) (by decide) rfl (by decide) rfl (hN (.fieldLinkNest RX3 139 "Steamfield$Well" "isInjector" "Z" "Steamfield") (by decide +kernel)) (fun _ h9 => h9) dX3_turnAll_22 ?_
        refine lv_topi (fun x8 ex8 => ?_)
        have J11 : ∀ x10 : Int32, x10 = (if x8 = 0 then a0 else a1) → ∀ ls : Array Slot, lv_has ls 4 [(0, .ref (ad 0)), (1, .int a0), (2, .int a1), (3, .int i2)] → W p l e (headSpec wsX3_turnAll ({ frames := 0, cells := 0, slots := 0, locals := 0 })).room s m ([.ref (ad 0), .int a0, .int a1] : List Value).toArray below meth c H locs 0 0 (MQ below (z_Qv (fun H => zW dC dI ca ad (fX3_turnAll M a0 a1) H ∧ z_Fx M (fX3_turnAll M a0 a1)) (z_A zd ad)) ([.ref (ad 0), .int a0, .int a1] : List Value).toArray s 0 0 (z_A zd ad)) (F0 m 33 ls [.int x10, .ref (ad (60 + k1))]) := by
          intro x10 ex10 ls hl
          refine zp_iN (D := (dC, dI)) (cl := vwCl) (C := RX7) (T := TX7) (N := 9) (ci := 7) (k := 2) (ty := .int) hx hb hts hinX7 tyX7 tyX7_ok nmX7 hown hK hH hI hS (fun _ h => h) (zk_v (Nat.lt_of_lt_of_le hkk1 (z_Ok.n12 hOk0))) (by decide) rfl (by decide) rfl (hN (.fieldLinkNest RX3 143 "Steamfield$Well" "valve" "I" "Steamfield") (by decide +kernel)) (fun _ h9 => h9) rfl (by decide +kernel) rfl rfl dX3_turnAll_33 (fun H locs hH oq hS => ?_)
          obtain ⟨M12, hM12⟩ : ∃ z : zM, z = zu M4 (60 + k1) 2 x10 := ⟨_, rfl⟩
          rw [← hM12] at hH
          have hFx : z_Fx M M12 := hFx.tr (by rw [hM12]; exact (z_Fx.u (zk_v (Nat.lt_of_lt_of_le hkk1 (z_Ok.n12 hOk0))) rfl))
          have hOk : z_Ok M12 := hOk0.fx hFx
          obtain ⟨x13, ex13⟩ : ∃ z : Int32, z = i2 + 1 := ⟨_, rfl⟩
          refine lv_iinc (v := x13) (lv' := [(3, .int x13), (0, .ref (ad 0)), (1, .int a0), (2, .int a1)]) hx hb dX3_turnAll_36 hl (k := 3) rfl (by rw [ex13]; rfl) (by decide) rfl (fun ls hl => ?_)
          refine lv_goto (tgt := 2) hx hb dX3_turnAll_39 (by decide) ?_
          exact ihk1 (k1 + 1) hkk1 (by omega) M12 (by rw [zit_s, ← esk1]; subst ex13; subst hM12; subst ex10; subst ex8; subst ex6; subst ei2; rfl) x13 (z_nx ei2 ex13) ls (lv_sub hl [1, 2, 3, 0] rfl) _ _ hH hFx hS
        refine lv_if_eq (tgt := 32) hx hb dX3_turnAll_25 (by decide) (fun c9 => ?_) (fun c9 => ?_)
        · refine lv_iload_n hx hb dX3_turnAll_32 rfl (lv_at hl 1 rfl) ?_
          exact J11 _ (by exact (if_pos c9).symm) ls (lv_sub hl [0, 1, 2, 3] rfl)
        · refine lv_iload_n hx hb dX3_turnAll_28 rfl (lv_at hl 2 rfl) ?_
          refine lv_goto (tgt := 33) hx hb dX3_turnAll_29 (by decide) ?_
          exact J11 _ (by exact (if_neg c9).symm) ls (lv_sub hl [0, 1, 2, 3] rfl)
  exact L5 (zc12 M + 1) 0 (Nat.zero_le _) (by omega) M (zit_0 _ _).symm _ rfl ls (lv_sub hl [1, 2, 3, 0] rfl) s.heap [] hH hFx hS

def fX3_shareOut (M : zM)  : zM :=
  let x1 : Int32 := M 6 2
  let x2 : Int32 := 3 * x1
  let x3 : Int32 := M 6 5
  let x4 : Int32 := x3 / 100
  let x5 : Int32 := x2 + x4
  let x6 : Int32 := rX3_shareOf M 0
  let x7 : Int32 := rX3_shareOf M 1
  let x8 : Int32 := x6 + x7
  let x10 : Int32 := if x8 ≤ 0 then 0 else (let x10 : Int32 := x5 * x6; let x11 : Int32 := x10 / x8; x11)
  let x12 : Int32 := M 8 0
  let x13 : Int32 := x12 + x10
  let M14 : zM := zu M 8 0 x13
  let x15 : Int32 := M14 8 1
  let x16 : Int32 := x5 - x10
  let x17 : Int32 := x15 + x16
  let M18 : zM := zu M14 8 1 x17
  M18
set_option maxHeartbeats 4000000 in
set_option maxRecDepth 100000 in
theorem m_X3_shareOut (l : Launch) (dC : Nat → ClassId) (dI : Nat → Nat → Nat) (ca : Nat → ClassId) (ad : Nat → Nat) (hI : z_I zd ad) (M : zM) (hOk0 : z_Ok M) : Met l yX3_shareOut wsX3_shareOut ({ frames := 1, cells := 0, slots := 0, locals := 23 }) (z_Pc (dC, dI) vwCl (zt ca) zw_nest [.ref (ad 0)] (fun H => zW dC dI ca ad M H)) (z_Qv (fun H => zW dC dI ca ad (fX3_shareOut M ) H ∧ z_Fx M (fX3_shareOut M )) (z_A zd ad)) 0 0 (z_A zd ad) := by
  refine Met.ofW (cc := cX3_shareOut) (maxL := 5) (ret := none) (by decide) rfl ?_
  intro p e s m args below meth c s₁ B9 hml hv
  obtain ⟨rfl, hH, hK, hN⟩ := hv
  have hx := B9.exec
  have hb := B9.bytes
  have hr := B9.returns
  have hts := atoms_spec (ws := wsX3_shareOut) B9.pre
  have hown : s.vm.findClass RX3 = some m.cls := findClass_of_methodNamed B9.named
  have hlocks := B9.notSynchronized
  have hS : va_S (z_A zd ad) s.heap s.heap [] := va_S.rf
  have hOk := hOk0
  have hFx : z_Fx M M := z_Fx.rf
  have hH : zW dC dI ca ad M s.heap := hH
  have hinX3 : ∀ w ∈ u_ws RX3 TX3 15, w ∈ wsX3_shareOut := by decide +kernel
  have hinX4 : ∀ w ∈ u_ws RX4 TX4 6, w ∈ wsX3_shareOut := by decide +kernel
  have hl := lv_entry ([.ref (ad 0)]) (n := 5) (Nat.le_of_ble_eq_true rfl)
  rw [lg_entry_eq]
  generalize (lg_sl ([.ref (ad 0)]) ++ List.replicate (5 - (lg_sl ([.ref (ad 0)])).length) Slot.unset).toArray = ls at hl ⊢
  have hl : lv_has ls 5 [(0, .ref (ad 0))] := hl
  refine lv_iconst (v := 3) hx hb dX3_shareOut_0 (by decide) ?_
  refine lv_aload_n hx hb dX3_shareOut_1 rfl (lv_at hl 0 rfl) ?_
  refine z_gr (D := (dC, dI)) (cl := vwCl) (C := RX3) (T := TX3) (N := 15) (ci := 3) (k := 5) hx hb hts hinX3 hown hK hH zk_0 (by decide) rfl (by decide) rfl (zr_0 (k := 5) (by decide)) (hts (.fieldLink RX3 45 "Steamfield$Land" "plant" "LSteamfield$Plant;") (by decide +kernel)) (fun _ h9 => h9) dX3_shareOut_2 ?_
  refine z_giN (D := (dC, dI)) (cl := vwCl) (C := RX4) (T := TX4) (N := 6) (ci := 4) (k := 2) hx hb hts hinX4 hown hK hH zk_6 (by decide) rfl (by decide) rfl (hN (.fieldLinkNest RX3 245 "Steamfield$Plant" "power" "I" "Steamfield") (by decide +kernel)) (fun _ h9 => h9) dX3_shareOut_5 ?_
  refine lv_topi (fun x1 ex1 => ?_)
  refine lv_imul hx hb dX3_shareOut_8 ?_
  refine lv_topi (fun x2 ex2 => ?_)
  refine lv_aload_n hx hb dX3_shareOut_9 rfl (lv_at hl 0 rfl) ?_
  refine z_gr (D := (dC, dI)) (cl := vwCl) (C := RX3) (T := TX3) (N := 15) (ci := 3) (k := 5) hx hb hts hinX3 hown hK hH zk_0 (by decide) rfl (by decide) rfl (zr_0 (k := 5) (by decide)) (hts (.fieldLink RX3 45 "Steamfield$Land" "plant" "LSteamfield$Plant;") (by decide +kernel)) (fun _ h9 => h9) dX3_shareOut_10 ?_
  refine z_giN (D := (dC, dI)) (cl := vwCl) (C := RX4) (T := TX4) (N := 6) (ci := 4) (k := 5) hx hb hts hinX4 hown hK hH zk_6 (by decide) rfl (by decide) rfl (hN (.fieldLinkNest RX3 260 "Steamfield$Plant" "townHeat" "I" "Steamfield") (by decide +kernel)) (fun _ h9 => h9) dX3_shareOut_13 ?_
  refine lv_topi (fun x3 ex3 => ?_)
  refine lv_bipush (v := 100) hx hb dX3_shareOut_16 (by decide) ?_
  refine lv_idiv hx hb dX3_shareOut_18 (by decide) ?_
  refine lv_topi (fun x4 ex4 => ?_)
  refine lv_iadd hx hb dX3_shareOut_19 ?_
  refine lv_topi (fun x5 ex5 => ?_)
  refine lv_istore_n (lv' := [(1, .int x5), (0, .ref (ad 0))]) hx hb dX3_shareOut_20 rfl hl (by decide) rfl (fun ls hl => ?_)
  refine lv_aload_n hx hb dX3_shareOut_21 rfl (lv_at hl 1 rfl) ?_
  refine lv_iconst (v := 0) hx hb dX3_shareOut_22 (by decide) ?_
  refine z_cVi (D := (dC, dI)) (cl := vwCl) (tys := zt ca) (nw := zw_nest) (C := RX3) (As := [.int 0]) (rest := []) ⟨hx, hb, hml, hown, hts⟩ (m_X3_shareOf l dC dI ca ad hI M 0 hOk) (cwV 1 hts gX3_shareOut_X3_shareOf rfl rfl rfl (by decide +kernel) ⟨Nat.le_of_ble_eq_true rfl, Nat.le_of_ble_eq_true rfl⟩) (z_recv (ci := 3) (i := 0) hK hH zk_0 (by decide) rfl) hH hK hN zw_nest_ok rfl hl.1 rfl (Nat.le_of_ble_eq_true rfl) dX3_shareOut_23 ⟨Nat.le_refl _, Nat.le_refl _⟩ hS (fun _ h => h) (fun H locs hB1 oq1 hz1 hS => ?_)
  have hH := hB1
  refine lv_topi (fun x6 ex6 => ?_)
  refine lv_istore_n (lv' := [(2, .int x6), (1, .int x5), (0, .ref (ad 0))]) hx hb dX3_shareOut_26 rfl hl (by decide) rfl (fun ls hl => ?_)
  refine lv_iload_n hx hb dX3_shareOut_27 rfl (lv_at hl 0 rfl) ?_
  refine lv_aload_n hx hb dX3_shareOut_28 rfl (lv_at hl 2 rfl) ?_
  refine lv_iconst (v := 1) hx hb dX3_shareOut_29 (by decide) ?_
  refine z_cVi (D := (dC, dI)) (cl := vwCl) (tys := zt ca) (nw := zw_nest) (C := RX3) (As := [.int 1]) (rest := [.int x6]) ⟨hx, hb, hml, hown, hts⟩ (m_X3_shareOf l dC dI ca ad hI M 1 hOk) (cwV 1 hts gX3_shareOut_X3_shareOf rfl rfl rfl (by decide +kernel) ⟨Nat.le_of_ble_eq_true rfl, Nat.le_of_ble_eq_true rfl⟩) (z_recv (ci := 3) (i := 0) hK hH zk_0 (by decide) rfl) hH hK hN zw_nest_ok rfl hl.1 rfl (Nat.le_of_ble_eq_true rfl) dX3_shareOut_30 ⟨Nat.le_refl _, Nat.le_refl _⟩ hS (fun _ h => h) (fun H locs hB1 oq1 hz1 hS => ?_)
  have hH := hB1
  refine lv_topi (fun x7 ex7 => ?_)
  refine lv_iadd hx hb dX3_shareOut_33 ?_
  refine lv_topi (fun x8 ex8 => ?_)
  refine lv_istore_n (lv' := [(3, .int x8), (2, .int x6), (1, .int x5), (0, .ref (ad 0))]) hx hb dX3_shareOut_34 rfl hl (by decide) rfl (fun ls hl => ?_)
  refine lv_iload_n hx hb dX3_shareOut_35 rfl (lv_at hl 0 rfl) ?_
  have J11 : ∀ x10 : Int32, x10 = (if x8 ≤ 0 then 0 else (let x10 : Int32 := x5 * x6; let x11 : Int32 := x10 / x8; x11)) → ∀ ls : Array Slot, lv_has ls 5 [(0, .ref (ad 0)), (1, .int x5), (2, .int x6), (3, .int x8)] → W p l e (headSpec wsX3_shareOut ({ frames := 1, cells := 0, slots := 0, locals := 23 })).room s m ([.ref (ad 0)] : List Value).toArray below meth c H locs 0 0 (MQ below (z_Qv (fun H => zW dC dI ca ad (fX3_shareOut M ) H ∧ z_Fx M (fX3_shareOut M )) (z_A zd ad)) ([.ref (ad 0)] : List Value).toArray s 0 0 (z_A zd ad)) (F0 m 48 ls [.int x10]) := by
    intro x10 ex10 ls hl
    refine lv_istore (lv' := [(4, .int x10), (0, .ref (ad 0)), (1, .int x5), (2, .int x6), (3, .int x8)]) hx hb dX3_shareOut_48 hl (by decide) rfl (fun ls hl => ?_)
    refine lv_aload_n hx hb dX3_shareOut_50 rfl (lv_at hl 1 rfl) ?_
    refine z_gr (D := (dC, dI)) (cl := vwCl) (C := RX3) (T := TX3) (N := 15) (ci := 3) (k := 7) hx hb hts hinX3 hown hK hH zk_0 (by decide) rfl (by decide) rfl (zr_0 (k := 7) (by decide)) (hts (.fieldLink RX3 56 "Steamfield$Land" "coins" "[I") (by decide +kernel)) (fun _ h9 => h9) dX3_shareOut_51 ?_
    refine lv_iconst (v := 0) hx hb dX3_shareOut_54 (by decide) ?_
    refine lv_dup2_11 hx hb dX3_shareOut_55 rfl rfl ?_
    refine z_al (t0 := 0) (D := (dC, dI)) (cl := vwCl) (tys := zt ca) hx hb hK hH zk_8 rfl (show vp_in 0 2 from (zx (n := 0) rfl (by decide) (by decide))) dX3_shareOut_56 ?_
    rw [zx_n (x := 0) (n := 0) rfl (by decide)]
    refine lv_topi (fun x12 ex12 => ?_)
    refine lv_iload hx hb dX3_shareOut_57 (lv_at hl 0 rfl) ?_
    refine lv_iadd hx hb dX3_shareOut_59 ?_
    refine lv_topi (fun x13 ex13 => ?_)
    refine zp_as (t0 := 0) (D := (dC, dI)) (cl := vwCl) (tys := zt ca) hx hb hK hH hI hS (fun _ h => h) zk_8 rfl (show vp_in 0 2 from (zx (n := 0) rfl (by decide) (by decide))) dX3_shareOut_60 (fun H locs hH oq hS => ?_)
    rw [zx_n (x := 0) (n := 0) rfl (by decide)] at hH
    obtain ⟨M14, hM14⟩ : ∃ z : zM, z = zu M 8 0 x13 := ⟨_, rfl⟩
    rw [← hM14] at hH
    have hFx : z_Fx M M14 := hFx.tr (by rw [hM14]; exact (z_Fx.u zk_8 rfl))
    have hOk : z_Ok M14 := hOk0.fx hFx
    refine lv_aload_n hx hb dX3_shareOut_61 rfl (lv_at hl 1 rfl) ?_
    refine z_gr (D := (dC, dI)) (cl := vwCl) (C := RX3) (T := TX3) (N := 15) (ci := 3) (k := 7) hx hb hts hinX3 hown hK hH zk_0 (by decide) rfl (by decide) rfl (zr_0 (k := 7) (by decide)) (hts (.fieldLink RX3 56 "Steamfield$Land" "coins" "[I") (by decide +kernel)) (fun _ h9 => h9) dX3_shareOut_62 ?_
    refine lv_iconst (v := 1) hx hb dX3_shareOut_65 (by decide) ?_
    refine lv_dup2_11 hx hb dX3_shareOut_66 rfl rfl ?_
    refine z_al (t0 := 0) (D := (dC, dI)) (cl := vwCl) (tys := zt ca) hx hb hK hH zk_8 rfl (show vp_in 1 2 from (zx (n := 1) rfl (by decide) (by decide))) dX3_shareOut_67 ?_
    rw [zx_n (x := 1) (n := 1) rfl (by decide)]
    refine lv_topi (fun x15 ex15 => ?_)
    refine lv_iload_n hx hb dX3_shareOut_68 rfl (lv_at hl 2 rfl) ?_
    refine lv_iload hx hb dX3_shareOut_69 (lv_at hl 0 rfl) ?_
    refine lv_isub hx hb dX3_shareOut_71 ?_
    refine lv_topi (fun x16 ex16 => ?_)
    refine lv_iadd hx hb dX3_shareOut_72 ?_
    refine lv_topi (fun x17 ex17 => ?_)
    refine zp_as (t0 := 0) (D := (dC, dI)) (cl := vwCl) (tys := zt ca) hx hb hK hH hI hS (fun _ h => h) zk_8 rfl (show vp_in 1 2 from (zx (n := 1) rfl (by decide) (by decide))) dX3_shareOut_73 (fun H locs hH oq hS => ?_)
    rw [zx_n (x := 1) (n := 1) rfl (by decide)] at hH
    obtain ⟨M18, hM18⟩ : ∃ z : zM, z = zu M14 8 1 x17 := ⟨_, rfl⟩
    rw [← hM18] at hH
    have hFx : z_Fx M M18 := hFx.tr (by rw [hM18]; exact (z_Fx.u zk_8 rfl))
    have hOk : z_Ok M18 := hOk0.fx hFx
    have hF0 : zW dC dI ca ad (fX3_shareOut M ) H := by
      have e9 : M18 = (fX3_shareOut M ) := by subst hM18; subst ex17; subst ex16; subst ex15; subst hM14; subst ex13; subst ex12; subst ex10; subst ex8; subst ex7; subst ex6; subst ex5; subst ex4; subst ex3; subst ex2; subst ex1; rfl
      rw [← e9]; exact hH
    have hFF : z_Fx M (fX3_shareOut M ) := by
      have e9 : M18 = (fX3_shareOut M ) := by subst hM18; subst ex17; subst ex16; subst ex15; subst hM14; subst ex13; subst ex12; subst ex10; subst ex8; subst ex7; subst ex6; subst ex5; subst ex4; subst ex3; subst ex2; subst ex1; rfl
      rw [← e9]; exact hFx
    exact W.vret hx hb hr (fun t ht hW => ⟨⟨(), rfl, trivial, z_to (B := fun H => zW dC dI ca ad (fX3_shareOut M ) H ∧ z_Fx M (fX3_shareOut M )) ht ⟨hF0, hFF⟩⟩, hS.F ht⟩) hS.2.2 dX3_shareOut_74
  refine lv_if_le (tgt := 47) hx hb dX3_shareOut_36 (by decide) (fun c9 => ?_) (fun c9 => ?_)
  · refine lv_iconst (v := 0) hx hb dX3_shareOut_47 (by decide) ?_
    exact J11 _ (by exact (if_pos c9).symm) ls (lv_sub hl [3, 2, 1, 0] rfl)
  · refine lv_iload_n hx hb dX3_shareOut_39 rfl (lv_at hl 2 rfl) ?_
    refine lv_iload_n hx hb dX3_shareOut_40 rfl (lv_at hl 1 rfl) ?_
    refine lv_imul hx hb dX3_shareOut_41 ?_
    refine lv_topi (fun x10 ex10 => ?_)
    refine lv_iload_n hx hb dX3_shareOut_42 rfl (lv_at hl 0 rfl) ?_
    refine lv_idiv hx hb dX3_shareOut_43 (z_nz c9) ?_
    refine lv_topi (fun x11 ex11 => ?_)
    refine lv_goto (tgt := 48) hx hb dX3_shareOut_44 (by decide) ?_
    exact J11 _ (by subst ex11; subst ex10; exact (if_neg c9).symm) ls (lv_sub hl [3, 2, 1, 0] rfl)

def bX3_payForLacks_2  (k1 : Nat) (st : zM) : zM :=
  let M4 : zM := st
  let i2 : Int32 := nI k1
  let x6 : Int32 := M4 0 13
  let x8 : Int32 := M4 (70 + k1) 0
  let x9 : Int32 := M4 (20 + x8.toNatClampNeg) 2
  let x10 : Int32 := M4 8 x9.toNatClampNeg
  let x11 : Int32 := M4 (70 + k1) 4
  let x12 : Int32 := 2 * x11
  let x13 : Int32 := x10 - x12
  let M14 : zM := zu M4 8 x9.toNatClampNeg x13
  let x15 : Int32 := 1 - x9
  let x16 : Int32 := M14 8 x15.toNatClampNeg
  let x17 : Int32 := M14 (70 + k1) 4
  let x18 : Int32 := x16 - x17
  let M19 : zM := zu M14 8 x15.toNatClampNeg x18
  M19
def fX3_payForLacks (M : zM)  : zM :=
  let M4 : zM := (zit (bX3_payForLacks_2) (zc13 M) M)
  M4
set_option maxHeartbeats 4000000 in
set_option maxRecDepth 100000 in
theorem m_X3_payForLacks (l : Launch) (dC : Nat → ClassId) (dI : Nat → Nat → Nat) (ca : Nat → ClassId) (ad : Nat → Nat) (hI : z_I zd ad) (M : zM) (hOk0 : z_Ok M) : Met l yX3_payForLacks wsX3_payForLacks ({ frames := 0, cells := 0, slots := 0, locals := 0 }) (z_Pc (dC, dI) vwCl (zt ca) zw_nest [.ref (ad 0)] (fun H => zW dC dI ca ad M H)) (z_Qv (fun H => zW dC dI ca ad (fX3_payForLacks M ) H ∧ z_Fx M (fX3_payForLacks M )) (z_A zd ad)) 0 0 (z_A zd ad) := by
  refine Met.ofW (cc := cX3_payForLacks) (maxL := 4) (ret := none) (by decide) rfl ?_
  intro p e s m args below meth c s₁ B9 hml hv
  obtain ⟨rfl, hH, hK, hN⟩ := hv
  have hx := B9.exec
  have hb := B9.bytes
  have hr := B9.returns
  have hts := atoms_spec (ws := wsX3_payForLacks) B9.pre
  have hown : s.vm.findClass RX3 = some m.cls := findClass_of_methodNamed B9.named
  have hlocks := B9.notSynchronized
  have hS : va_S (z_A zd ad) s.heap s.heap [] := va_S.rf
  have hOk := hOk0
  have hFx : z_Fx M M := z_Fx.rf
  have hH : zW dC dI ca ad M s.heap := hH
  have hinX0 : ∀ w ∈ u_ws RX0 TX0 3, w ∈ wsX3_payForLacks := by decide +kernel
  have hinX3 : ∀ w ∈ u_ws RX3 TX3 15, w ∈ wsX3_payForLacks := by decide +kernel
  have hinX5 : ∀ w ∈ u_ws RX5 TX5 7, w ∈ wsX3_payForLacks := by decide +kernel
  have hl := lv_entry ([.ref (ad 0)]) (n := 4) (Nat.le_of_ble_eq_true rfl)
  rw [lg_entry_eq]
  generalize (lg_sl ([.ref (ad 0)]) ++ List.replicate (4 - (lg_sl ([.ref (ad 0)])).length) Slot.unset).toArray = ls at hl ⊢
  have hl : lv_has ls 4 [(0, .ref (ad 0))] := hl
  refine lv_iconst (v := 0) hx hb dX3_payForLacks_0 (by decide) ?_
  refine lv_istore_n (lv' := [(1, .int 0), (0, .ref (ad 0))]) hx hb dX3_payForLacks_1 rfl hl (by decide) rfl (fun ls hl => ?_)
  have L5 : ∀ (d3 k1 : Nat), k1 ≤ zc13 M → zc13 M - k1 < d3 → ∀ M4 : zM, M4 = zit (bX3_payForLacks_2) k1 M → ∀ i2 : Int32, i2 = nI k1 → ∀ ls : Array Slot, lv_has ls 4 [(0, .ref (ad 0)), (1, .int i2)] → ∀ (H : Heap) (locs : List Loc), zW dC dI ca ad M4 H → z_Fx M M4 → va_S (z_A zd ad) s.heap H locs → W p l e (headSpec wsX3_payForLacks ({ frames := 0, cells := 0, slots := 0, locals := 0 })).room s m ([.ref (ad 0)] : List Value).toArray below meth c H locs 0 0 (MQ below (z_Qv (fun H => zW dC dI ca ad (fX3_payForLacks M ) H ∧ z_Fx M (fX3_payForLacks M )) (z_A zd ad)) ([.ref (ad 0)] : List Value).toArray s 0 0 (z_A zd ad)) (F0 m 2 ls []) := by
    intro d3
    induction d3 with
    | zero => intro k1 hk1 hd; exact absurd hd (by omega)
    | succ d3 ihk1 =>
      intro k1 hk1 hd M4 esk1 i2 ei2 ls hl H locs hH hFx hS
      have hOk : z_Ok M4 := hOk0.fx hFx
      refine lv_iload_n hx hb dX3_payForLacks_2 rfl (lv_at hl 1 rfl) ?_
      refine lv_aload_n hx hb dX3_payForLacks_3 rfl (lv_at hl 0 rfl) ?_
      refine z_gi (D := (dC, dI)) (cl := vwCl) (C := RX3) (T := TX3) (N := 15) (ci := 3) (k := 13) hx hb hts hinX3 hown hK hH zk_0 (by decide) rfl (by decide) rfl (hts (.fieldLink RX3 108 "Steamfield$Land" "springCount" "I") (by decide +kernel)) (fun _ h9 => h9) dX3_payForLacks_4 ?_
      refine lv_topi (fun x6 ex6 => ?_)
      have hx6 : x6 = nI (zc13 M) := by rw [ex6, hFx.c13]; exact z_Ok.c13 hOk0
      refine lv_icmp_ge (tgt := 66) hx hb dX3_payForLacks_7 (by decide) (fun c7 => ?_) (fun c7 => ?_)
      · have hkk1 : k1 = zc13 M := z_ge hx6 ei2 hk1 (Nat.lt_of_le_of_lt (z_Ok.n13 hOk0) (by decide)) c7
        have qM4 : M4 = (zit (bX3_payForLacks_2) (zc13 M) M) := by rw [← hkk1, ← esk1]
        have hF0 : zW dC dI ca ad (fX3_payForLacks M ) H := by
          have e9 : M4 = (fX3_payForLacks M ) := by subst qM4; rfl
          rw [← e9]; exact hH
        have hFF : z_Fx M (fX3_payForLacks M ) := by
          have e9 : M4 = (fX3_payForLacks M ) := by subst qM4; rfl
          rw [← e9]; exact hFx
        exact W.vret hx hb hr (fun t ht hW => ⟨⟨(), rfl, trivial, z_to (B := fun H => zW dC dI ca ad (fX3_payForLacks M ) H ∧ z_Fx M (fX3_payForLacks M )) ht ⟨hF0, hFF⟩⟩, hS.F ht⟩) hS.2.2 dX3_payForLacks_66
      · have hkk1 : k1 < zc13 M := z_lt hx6 ei2 hk1 (Nat.lt_of_le_of_lt (z_Ok.n13 hOk0) (by decide)) c7
        refine lv_aload_n hx hb dX3_payForLacks_10 rfl (lv_at hl 0 rfl) ?_
        refine z_gr (D := (dC, dI)) (cl := vwCl) (C := RX3) (T := TX3) (N := 15) (ci := 3) (k := 3) hx hb hts hinX3 hown hK hH zk_0 (by decide) rfl (by decide) rfl (zr_0 (k := 3) (by decide)) (hts (.fieldLink RX3 31 "Steamfield$Land" "springs" "[LSteamfield$Spring;") (by decide +kernel)) (fun _ h9 => h9) dX3_payForLacks_11 ?_
        refine lv_iload_n hx hb dX3_payForLacks_14 rfl (lv_at hl 1 rfl) ?_
        refine z_aq (t0 := 4) (D := (dC, dI)) (cl := vwCl) (tys := zt ca) hx hb hK hH zk_4 (by decide) (by decide) rfl (show vp_in i2 3 from (zx ei2 (Nat.lt_of_lt_of_le hkk1 (z_Ok.n13 hOk0)) (by decide))) (show zr 4 (i2 : Int32).toNatClampNeg = some (70 + k1) from by rw [zx_n ei2 (Nat.lt_trans (Nat.lt_of_lt_of_le hkk1 (z_Ok.n13 hOk0)) (by decide : 3 < 2 ^ 31))]; exact zr_4 (Nat.lt_of_lt_of_le hkk1 (z_Ok.n13 hOk0))) dX3_payForLacks_15 ?_
        refine lv_astore_n (lv' := [(2, .ref (ad (70 + k1))), (0, .ref (ad 0)), (1, .int i2)]) hx hb dX3_payForLacks_16 rfl hl (by decide) rfl (fun ls hl => ?_)
        refine lv_aload_n hx hb dX3_payForLacks_17 rfl (lv_at hl 1 rfl) ?_
        refine z_gr (D := (dC, dI)) (cl := vwCl) (C := RX3) (T := TX3) (N := 15) (ci := 3) (k := 0) hx hb hts hinX3 hown hK hH zk_0 (by decide) rfl (by decide) rfl (zr_0 (k := 0) (by decide)) (hts (.fieldLink RX3 11 "Steamfield$Land" "blocks" "[LSteamfield$Block;") (by decide +kernel)) (fun _ h9 => h9) dX3_payForLacks_18 ?_
        refine lv_aload_n hx hb dX3_payForLacks_21 rfl (lv_at hl 0 rfl) ?_
        refine z_giN (D := (dC, dI)) (cl := vwCl) (C := RX5) (T := TX5) (N := 7) (ci := 5) (k := 0) hx hb hts hinX5 hown hK hH (zk_s (Nat.lt_of_lt_of_le hkk1 (z_Ok.n13 hOk0))) (by decide) rfl (by decide) rfl (hN (.fieldLinkNest RX3 275 "Steamfield$Spring" "block" "I" "Steamfield") (by decide +kernel)) (fun _ h9 => h9) dX3_payForLacks_22 ?_
        refine lv_topi (fun x8 ex8 => ?_)
        have hx8 : z_ix x8 8 := by rw [ex8]; exact z_Ok.sblock hOk (Nat.lt_of_lt_of_le hkk1 (z_Ok.n13 hOk0))
        refine z_aq (t0 := 1) (D := (dC, dI)) (cl := vwCl) (tys := zt ca) hx hb hK hH zk_1 (by decide) (by decide) rfl (show vp_in x8 8 from (z_ix.in hx8)) (show zr 1 (x8 : Int32).toNatClampNeg = some (20 + x8.toNatClampNeg) from zr_1 (z_ix.lt hx8)) dX3_payForLacks_25 ?_
        refine z_giN (D := (dC, dI)) (cl := vwCl) (C := RX0) (T := TX0) (N := 3) (ci := 0) (k := 2) hx hb hts hinX0 hown hK hH (zk_b (z_ix.lt hx8)) (by decide) rfl (by decide) rfl (hN (.fieldLinkNest RX3 114 "Steamfield$Block" "owner" "I" "Steamfield") (by decide +kernel)) (fun _ h9 => h9) dX3_payForLacks_26 ?_
        refine lv_topi (fun x9 ex9 => ?_)
        have hx9 : z_ix x9 2 := by rw [ex9]; exact z_Ok.owner hOk (z_ix.lt hx8)
        refine lv_istore_n (lv' := [(3, .int x9), (2, .ref (ad (70 + k1))), (0, .ref (ad 0)), (1, .int i2)]) hx hb dX3_payForLacks_29 rfl hl (by decide) rfl (fun ls hl => ?_)
        refine lv_aload_n hx hb dX3_payForLacks_30 rfl (lv_at hl 2 rfl) ?_
        refine z_gr (D := (dC, dI)) (cl := vwCl) (C := RX3) (T := TX3) (N := 15) (ci := 3) (k := 7) hx hb hts hinX3 hown hK hH zk_0 (by decide) rfl (by decide) rfl (zr_0 (k := 7) (by decide)) (hts (.fieldLink RX3 56 "Steamfield$Land" "coins" "[I") (by decide +kernel)) (fun _ h9 => h9) dX3_payForLacks_31 ?_
        refine lv_iload_n hx hb dX3_payForLacks_34 rfl (lv_at hl 0 rfl) ?_
        refine lv_dup2_11 hx hb dX3_payForLacks_35 rfl rfl ?_
        refine z_al (t0 := 0) (D := (dC, dI)) (cl := vwCl) (tys := zt ca) hx hb hK hH zk_8 rfl (show vp_in x9 2 from (z_ix.in hx9)) dX3_payForLacks_36 ?_
        refine lv_topi (fun x10 ex10 => ?_)
        refine lv_iconst (v := 2) hx hb dX3_payForLacks_37 (by decide) ?_
        refine lv_aload_n hx hb dX3_payForLacks_38 rfl (lv_at hl 1 rfl) ?_
        refine z_giN (D := (dC, dI)) (cl := vwCl) (C := RX5) (T := TX5) (N := 7) (ci := 5) (k := 4) hx hb hts hinX5 hown hK hH (zk_s (Nat.lt_of_lt_of_le hkk1 (z_Ok.n13 hOk0))) (by decide) rfl (by decide) rfl (hN (.fieldLinkNest RX3 283 "Steamfield$Spring" "lacked" "I" "Steamfield") (by decide +kernel)) (fun _ h9 => h9) dX3_payForLacks_39 ?_
        refine lv_topi (fun x11 ex11 => ?_)
        refine lv_imul hx hb dX3_payForLacks_42 ?_
        refine lv_topi (fun x12 ex12 => ?_)
        refine lv_isub hx hb dX3_payForLacks_43 ?_
        refine lv_topi (fun x13 ex13 => ?_)
        refine zp_as (t0 := 0) (D := (dC, dI)) (cl := vwCl) (tys := zt ca) hx hb hK hH hI hS (fun _ h => h) zk_8 rfl (show vp_in x9 2 from (z_ix.in hx9)) dX3_payForLacks_44 (fun H locs hH oq hS => ?_)
        obtain ⟨M14, hM14⟩ : ∃ z : zM, z = zu M4 8 x9.toNatClampNeg x13 := ⟨_, rfl⟩
        rw [← hM14] at hH
        have hFx : z_Fx M M14 := hFx.tr (by rw [hM14]; exact (z_Fx.u zk_8 rfl))
        have hOk : z_Ok M14 := hOk0.fx hFx
        refine lv_aload_n hx hb dX3_payForLacks_45 rfl (lv_at hl 2 rfl) ?_
        refine z_gr (D := (dC, dI)) (cl := vwCl) (C := RX3) (T := TX3) (N := 15) (ci := 3) (k := 7) hx hb hts hinX3 hown hK hH zk_0 (by decide) rfl (by decide) rfl (zr_0 (k := 7) (by decide)) (hts (.fieldLink RX3 56 "Steamfield$Land" "coins" "[I") (by decide +kernel)) (fun _ h9 => h9) dX3_payForLacks_46 ?_
        refine lv_iconst (v := 1) hx hb dX3_payForLacks_49 (by decide) ?_
        refine lv_iload_n hx hb dX3_payForLacks_50 rfl (lv_at hl 0 rfl) ?_
        refine lv_isub hx hb dX3_payForLacks_51 ?_
        refine lv_topi (fun x15 ex15 => ?_)
        have hx15 : z_ix x15 2 := by rw [ex15]; exact z_ix1 hx9
        refine lv_dup2_11 hx hb dX3_payForLacks_52 rfl rfl ?_
        refine z_al (t0 := 0) (D := (dC, dI)) (cl := vwCl) (tys := zt ca) hx hb hK hH zk_8 rfl (show vp_in x15 2 from (z_ix.in hx15)) dX3_payForLacks_53 ?_
        refine lv_topi (fun x16 ex16 => ?_)
        refine lv_aload_n hx hb dX3_payForLacks_54 rfl (lv_at hl 1 rfl) ?_
        refine z_giN (D := (dC, dI)) (cl := vwCl) (C := RX5) (T := TX5) (N := 7) (ci := 5) (k := 4) hx hb hts hinX5 hown hK hH (zk_s (Nat.lt_of_lt_of_le hkk1 (z_Ok.n13 hOk0))) (by decide) rfl (by decide) rfl (hN (.fieldLinkNest RX3 283 "Steamfield$Spring" "lacked" "I" "Steamfield") (by decide +kernel)) (fun _ h9 => h9) dX3_payForLacks_55 ?_
        refine lv_topi (fun x17 ex17 => ?_)
        refine lv_isub hx hb dX3_payForLacks_58 ?_
        refine lv_topi (fun x18 ex18 => ?_)
        refine zp_as (t0 := 0) (D := (dC, dI)) (cl := vwCl) (tys := zt ca) hx hb hK hH hI hS (fun _ h => h) zk_8 rfl (show vp_in x15 2 from (z_ix.in hx15)) dX3_payForLacks_59 (fun H locs hH oq hS => ?_)
        obtain ⟨M19, hM19⟩ : ∃ z : zM, z = zu M14 8 x15.toNatClampNeg x18 := ⟨_, rfl⟩
        rw [← hM19] at hH
        have hFx : z_Fx M M19 := hFx.tr (by rw [hM19]; exact (z_Fx.u zk_8 rfl))
        have hOk : z_Ok M19 := hOk0.fx hFx
        obtain ⟨x20, ex20⟩ : ∃ z : Int32, z = i2 + 1 := ⟨_, rfl⟩
        refine lv_iinc (v := x20) (lv' := [(1, .int x20), (3, .int x9), (2, .ref (ad (70 + k1))), (0, .ref (ad 0))]) hx hb dX3_payForLacks_60 hl (k := 3) rfl (by rw [ex20]; rfl) (by decide) rfl (fun ls hl => ?_)
        refine lv_goto (tgt := 2) hx hb dX3_payForLacks_63 (by decide) ?_
        exact ihk1 (k1 + 1) hkk1 (by omega) M19 (by rw [zit_s, ← esk1]; subst ex20; subst hM19; subst ex18; subst ex17; subst ex16; subst ex15; subst hM14; subst ex13; subst ex12; subst ex11; subst ex10; subst ex9; subst ex8; subst ex6; subst ei2; rfl) x20 (z_nx ei2 ex20) ls (lv_sub hl [3, 0] rfl) _ _ hH hFx hS
  exact L5 (zc13 M + 1) 0 (Nat.zero_le _) (by omega) M (zit_0 _ _).symm _ rfl ls (lv_sub hl [1, 0] rfl) s.heap [] hH hFx hS

def bX3_step_17  (k5 : Nat) (st : zM) : zM :=
  let M8 : zM := st
  let i6 : Int32 := nI k5
  let x10 : Int32 := M8 0 11
  let M12 : zM := fX3_flowThrough M8 k5
  M12
def bX3_step_45  (k14 : Nat) (st : zM × Int32) : zM × Int32 :=
  let M17 : zM := st.1
  let a18 : Int32 := st.2
  let i15 : Int32 := nI k14
  let x20 : Int32 := M17 0 12
  let x22 : Int32 := M17 (60 + k14) 1
  let x24 : Int32 := if ¬ x22 = 0 then a18 else (let x24 : Int32 := rX3_produce M17 k14; let M25 : zM := fX3_produce M17 k14; let x26 : Int32 := a18 + x24; x26)
  let M25 : zM := if ¬ x22 = 0 then M17 else (let x24 : Int32 := rX3_produce M17 k14; let M25 : zM := fX3_produce M17 k14; let x26 : Int32 := a18 + x24; M25)
  (M25, x24)
def bX3_step_102 (x4 : Int32) (k31 : Nat) (st : zM × Int32) : zM × Int32 :=
  let M34 : zM := st.1
  let a35 : Int32 := st.2
  let i32 : Int32 := nI k31
  let x37 : Int32 := M34 0 12
  let x39 : Int32 := M34 (60 + k31) 1
  let x41 : Int32 := if x39 = 0 then a35 else (let x41 : Int32 := rX3_inject M34 k31 x4; let M42 : zM := fX3_inject M34 k31 x4; let x43 : Int32 := a35 + x41; x43)
  let M42 : zM := if x39 = 0 then M34 else (let x41 : Int32 := rX3_inject M34 k31 x4; let M42 : zM := fX3_inject M34 k31 x4; let x43 : Int32 := a35 + x41; M42)
  (M42, x41)
def bX3_step_160  (k48 : Nat) (st : zM) : zM :=
  let M51 : zM := st
  let i49 : Int32 := nI k48
  let x53 : Int32 := M51 0 13
  let M55 : zM := fX3_letFlow M51 k48
  M55
def fX3_step (M : zM)  : zM :=
  let x1 : Int32 := M 0 14
  let x2 : Int32 := x1 + 1
  let M3 : zM := zu M 0 14 x2
  let x4 : Int32 := rX3_light M3 
  let M8 : zM := (zit (bX3_step_17) (zc11 M) M3)
  let M17 : zM := (zit (bX3_step_45) (zc12 M) (M8, 0)).1
  let a18 : Int32 := (zit (bX3_step_45) (zc12 M) (M8, 0)).2
  let M28 : zM := fX3_drive M17 a18
  let M29 : zM := fX3_warmTheTown M28 
  let M30 : zM := fX3_spill M29 
  let M34 : zM := (zit (bX3_step_102 x4) (zc12 M) (M30, 0)).1
  let a35 : Int32 := (zit (bX3_step_102 x4) (zc12 M) (M30, 0)).2
  let x45 : Int32 := M34 0 14
  let x46 : Int32 := x45 &&& 3
  let M47 : zM := zu M34 9 x46.toNatClampNeg a35
  let M51 : zM := (zit (bX3_step_160) (zc13 M) M47)
  let M57 : zM := fX3_shareOut M51 
  let M58 : zM := fX3_payForLacks M57 
  M58
set_option maxHeartbeats 4000000 in
set_option maxRecDepth 100000 in
theorem m_X3_step (l : Launch) (dC : Nat → ClassId) (dI : Nat → Nat → Nat) (ca : Nat → ClassId) (ad : Nat → Nat) (hI : z_I zd ad) (M : zM) (hOk0 : z_Ok M) : Met l yX3_step wsX3_step ({ frames := 3, cells := 0, slots := 0, locals := 73 }) (z_Pc (dC, dI) vwCl (zt ca) zw_nest [.ref (ad 0)] (fun H => zW dC dI ca ad M H)) (z_Qv (fun H => zW dC dI ca ad (fX3_step M ) H ∧ z_Fx M (fX3_step M )) (z_A zd ad)) 0 0 (z_A zd ad) := by
  refine Met.ofW (cc := cX3_step) (maxL := 5) (ret := none) (by decide) rfl ?_
  intro p e s m args below meth c s₁ B9 hml hv
  obtain ⟨rfl, hH, hK, hN⟩ := hv
  have hx := B9.exec
  have hb := B9.bytes
  have hr := B9.returns
  have hts := atoms_spec (ws := wsX3_step) B9.pre
  have hown : s.vm.findClass RX3 = some m.cls := findClass_of_methodNamed B9.named
  have hlocks := B9.notSynchronized
  have hS : va_S (z_A zd ad) s.heap s.heap [] := va_S.rf
  have hOk := hOk0
  have hFx : z_Fx M M := z_Fx.rf
  have hH : zW dC dI ca ad M s.heap := hH
  have hinX3 : ∀ w ∈ u_ws RX3 TX3 15, w ∈ wsX3_step := by decide +kernel
  have hinX7 : ∀ w ∈ u_ws RX7 TX7 9, w ∈ wsX3_step := by decide +kernel
  have hl := lv_entry ([.ref (ad 0)]) (n := 5) (Nat.le_of_ble_eq_true rfl)
  rw [lg_entry_eq]
  generalize (lg_sl ([.ref (ad 0)]) ++ List.replicate (5 - (lg_sl ([.ref (ad 0)])).length) Slot.unset).toArray = ls at hl ⊢
  have hl : lv_has ls 5 [(0, .ref (ad 0))] := hl
  refine lv_aload_n hx hb dX3_step_0 rfl (lv_at hl 0 rfl) ?_
  refine lv_dup hx hb dX3_step_1 rfl ?_
  refine z_gi (D := (dC, dI)) (cl := vwCl) (C := RX3) (T := TX3) (N := 15) (ci := 3) (k := 14) hx hb hts hinX3 hown hK hH zk_0 (by decide) rfl (by decide) rfl (hts (.fieldLink RX3 111 "Steamfield$Land" "now" "I") (by decide +kernel)) (fun _ h9 => h9) dX3_step_2 ?_
  refine lv_topi (fun x1 ex1 => ?_)
  refine lv_iconst (v := 1) hx hb dX3_step_5 (by decide) ?_
  refine lv_iadd hx hb dX3_step_6 ?_
  refine lv_topi (fun x2 ex2 => ?_)
  refine zp_i (D := (dC, dI)) (cl := vwCl) (C := RX3) (T := TX3) (N := 15) (ci := 3) (k := 14) (ty := .int) hx hb hts hinX3 tyX3 tyX3_ok nmX3 hown hK hH hI hS (fun _ h => h) zk_0 (by decide) rfl (by decide) rfl (hts (.fieldLink RX3 111 "Steamfield$Land" "now" "I") (by decide +kernel)) (fun _ h9 => h9) rfl (by decide +kernel) rfl rfl dX3_step_7 (fun H locs hH oq hS => ?_)
  obtain ⟨M3, hM3⟩ : ∃ z : zM, z = zu M 0 14 x2 := ⟨_, rfl⟩
  rw [← hM3] at hH
  have hFx : z_Fx M M3 := hFx.tr (by rw [hM3]; exact (z_Fx.u zk_0 rfl))
  have hOk : z_Ok M3 := hOk0.fx hFx
  refine lv_aload_n hx hb dX3_step_10 rfl (lv_at hl 0 rfl) ?_
  refine z_cVi (D := (dC, dI)) (cl := vwCl) (tys := zt ca) (nw := zw_nest) (C := RX3) (As := []) (rest := []) ⟨hx, hb, hml, hown, hts⟩ (m_X3_light l dC dI ca ad hI M3 ) (cwV 0 hts gX3_step_X3_light rfl rfl rfl (by decide +kernel) ⟨Nat.le_of_ble_eq_true rfl, Nat.le_of_ble_eq_true rfl⟩) (z_recv (ci := 3) (i := 0) hK hH zk_0 (by decide) rfl) hH hK hN zw_nest_ok rfl hl.1 rfl (Nat.le_of_ble_eq_true rfl) dX3_step_11 ⟨Nat.le_refl _, Nat.le_refl _⟩ hS (fun _ h => h) (fun H locs hB1 oq1 hz1 hS => ?_)
  have hH := hB1
  refine lv_topi (fun x4 ex4 => ?_)
  refine lv_istore_n (lv' := [(1, .int x4), (0, .ref (ad 0))]) hx hb dX3_step_14 rfl hl (by decide) rfl (fun ls hl => ?_)
  refine lv_iconst (v := 0) hx hb dX3_step_15 (by decide) ?_
  refine lv_istore_n (lv' := [(2, .int 0), (1, .int x4), (0, .ref (ad 0))]) hx hb dX3_step_16 rfl hl (by decide) rfl (fun ls hl => ?_)
  have L9 : ∀ (d7 k5 : Nat), k5 ≤ zc11 M → zc11 M - k5 < d7 → ∀ M8 : zM, M8 = zit (bX3_step_17) k5 M3 → ∀ i6 : Int32, i6 = nI k5 → ∀ ls : Array Slot, lv_has ls 5 [(0, .ref (ad 0)), (1, .int x4), (2, .int i6)] → ∀ (H : Heap) (locs : List Loc), zW dC dI ca ad M8 H → z_Fx M M8 → va_S (z_A zd ad) s.heap H locs → W p l e (headSpec wsX3_step ({ frames := 3, cells := 0, slots := 0, locals := 73 })).room s m ([.ref (ad 0)] : List Value).toArray below meth c H locs 0 0 (MQ below (z_Qv (fun H => zW dC dI ca ad (fX3_step M ) H ∧ z_Fx M (fX3_step M )) (z_A zd ad)) ([.ref (ad 0)] : List Value).toArray s 0 0 (z_A zd ad)) (F0 m 17 ls []) := by
    intro d7
    induction d7 with
    | zero => intro k5 hk5 hd; exact absurd hd (by omega)
    | succ d7 ihk5 =>
      intro k5 hk5 hd M8 esk5 i6 ei6 ls hl H locs hH hFx hS
      have hOk : z_Ok M8 := hOk0.fx hFx
      refine lv_iload_n hx hb dX3_step_17 rfl (lv_at hl 2 rfl) ?_
      refine lv_aload_n hx hb dX3_step_18 rfl (lv_at hl 0 rfl) ?_
      refine z_gi (D := (dC, dI)) (cl := vwCl) (C := RX3) (T := TX3) (N := 15) (ci := 3) (k := 11) hx hb hts hinX3 hown hK hH zk_0 (by decide) rfl (by decide) rfl (hts (.fieldLink RX3 102 "Steamfield$Land" "faceCount" "I") (by decide +kernel)) (fun _ h9 => h9) dX3_step_19 ?_
      refine lv_topi (fun x10 ex10 => ?_)
      have hx10 : x10 = nI (zc11 M) := by rw [ex10, hFx.c11]; exact z_Ok.c11 hOk0
      refine lv_icmp_ge (tgt := 41) hx hb dX3_step_22 (by decide) (fun c11 => ?_) (fun c11 => ?_)
      · have hkk5 : k5 = zc11 M := z_ge hx10 ei6 hk5 (Nat.lt_of_le_of_lt (z_Ok.n11 hOk0) (by decide)) c11
        have qM8 : M8 = (zit (bX3_step_17) (zc11 M) M3) := by rw [← hkk5, ← esk5]
        refine lv_iconst (v := 0) hx hb dX3_step_41 (by decide) ?_
        refine lv_istore_n (lv' := [(2, .int 0), (0, .ref (ad 0)), (1, .int x4)]) hx hb dX3_step_42 rfl hl (by decide) rfl (fun ls hl => ?_)
        refine lv_iconst (v := 0) hx hb dX3_step_43 (by decide) ?_
        refine lv_istore_n (lv' := [(3, .int 0), (2, .int 0), (0, .ref (ad 0)), (1, .int x4)]) hx hb dX3_step_44 rfl hl (by decide) rfl (fun ls hl => ?_)
        have L19 : ∀ (d16 k14 : Nat), k14 ≤ zc12 M → zc12 M - k14 < d16 → ∀ M17 : zM, ∀ a18 : Int32, (M17, a18) = zit (bX3_step_45) k14 (M8, 0) → ∀ i15 : Int32, i15 = nI k14 → ∀ ls : Array Slot, lv_has ls 5 [(0, .ref (ad 0)), (1, .int x4), (2, .int a18), (3, .int i15)] → ∀ (H : Heap) (locs : List Loc), zW dC dI ca ad M17 H → z_Fx M M17 → va_S (z_A zd ad) s.heap H locs → W p l e (headSpec wsX3_step ({ frames := 3, cells := 0, slots := 0, locals := 73 })).room s m ([.ref (ad 0)] : List Value).toArray below meth c H locs 0 0 (MQ below (z_Qv (fun H => zW dC dI ca ad (fX3_step M ) H ∧ z_Fx M (fX3_step M )) (z_A zd ad)) ([.ref (ad 0)] : List Value).toArray s 0 0 (z_A zd ad)) (F0 m 45 ls []) := by
          intro d16
          induction d16 with
          | zero => intro k14 hk14 hd; exact absurd hd (by omega)
          | succ d16 ihk14 =>
            intro k14 hk14 hd M17 a18 esk14 i15 ei15 ls hl H locs hH hFx hS
            have hOk : z_Ok M17 := hOk0.fx hFx
            refine lv_iload_n hx hb dX3_step_45 rfl (lv_at hl 3 rfl) ?_
            refine lv_aload_n hx hb dX3_step_46 rfl (lv_at hl 0 rfl) ?_
            refine z_gi (D := (dC, dI)) (cl := vwCl) (C := RX3) (T := TX3) (N := 15) (ci := 3) (k := 12) hx hb hts hinX3 hown hK hH zk_0 (by decide) rfl (by decide) rfl (hts (.fieldLink RX3 105 "Steamfield$Land" "wellCount" "I") (by decide +kernel)) (fun _ h9 => h9) dX3_step_47 ?_
            refine lv_topi (fun x20 ex20 => ?_)
            have hx20 : x20 = nI (zc12 M) := by rw [ex20, hFx.c12]; exact z_Ok.c12 hOk0
            refine lv_icmp_ge (tgt := 84) hx hb dX3_step_50 (by decide) (fun c21 => ?_) (fun c21 => ?_)
            · have hkk14 : k14 = zc12 M := z_ge hx20 ei15 hk14 (Nat.lt_of_le_of_lt (z_Ok.n12 hOk0) (by decide)) c21
              have qM17 : M17 = (zit (bX3_step_45) (zc12 M) (M8, 0)).1 := by rw [← hkk14, ← esk14]
              have qa18 : a18 = (zit (bX3_step_45) (zc12 M) (M8, 0)).2 := by rw [← hkk14, ← esk14]
              refine lv_aload_n hx hb dX3_step_84 rfl (lv_at hl 0 rfl) ?_
              refine lv_iload_n hx hb dX3_step_85 rfl (lv_at hl 2 rfl) ?_
              refine z_cVv (D := (dC, dI)) (cl := vwCl) (tys := zt ca) (nw := zw_nest) (C := RX3) (As := [.int a18]) (rest := []) ⟨hx, hb, hml, hown, hts⟩ (m_X3_drive l dC dI ca ad hI M17 a18 hOk) (cwV 1 hts gX3_step_X3_drive rfl rfl rfl (by decide +kernel) ⟨Nat.le_of_ble_eq_true rfl, Nat.le_of_ble_eq_true rfl⟩) (z_recv (ci := 3) (i := 0) hK hH zk_0 (by decide) rfl) hH hK hN zw_nest_ok rfl hl.1 rfl (Nat.le_of_ble_eq_true rfl) dX3_step_86 ⟨Nat.le_refl _, Nat.le_refl _⟩ hS (fun _ h => h) (fun H locs hB1 oq1 hz1 hS => ?_)
              obtain ⟨hH, hFc⟩ := hB1
              obtain ⟨M28, hM28⟩ : ∃ z : zM, z = fX3_drive M17 a18 := ⟨_, rfl⟩
              have hH : z_H (dC, dI) vwCl zf ca zd ad M28 H := by rw [hM28]; exact hH
              have hFx : z_Fx M M28 := hFx.tr (by rw [hM28]; exact hFc)
              have hOk : z_Ok M28 := hOk0.fx hFx
              refine lv_aload_n hx hb dX3_step_89 rfl (lv_at hl 0 rfl) ?_
              refine z_cVv (D := (dC, dI)) (cl := vwCl) (tys := zt ca) (nw := zw_nest) (C := RX3) (As := []) (rest := []) ⟨hx, hb, hml, hown, hts⟩ (m_X3_warmTheTown l dC dI ca ad hI M28 hOk) (cwV 0 hts gX3_step_X3_warmTheTown rfl rfl rfl (by decide +kernel) ⟨Nat.le_of_ble_eq_true rfl, Nat.le_of_ble_eq_true rfl⟩) (z_recv (ci := 3) (i := 0) hK hH zk_0 (by decide) rfl) hH hK hN zw_nest_ok rfl hl.1 rfl (Nat.le_of_ble_eq_true rfl) dX3_step_90 ⟨Nat.le_refl _, Nat.le_refl _⟩ hS (fun _ h => h) (fun H locs hB1 oq1 hz1 hS => ?_)
              obtain ⟨hH, hFc⟩ := hB1
              obtain ⟨M29, hM29⟩ : ∃ z : zM, z = fX3_warmTheTown M28  := ⟨_, rfl⟩
              have hH : z_H (dC, dI) vwCl zf ca zd ad M29 H := by rw [hM29]; exact hH
              have hFx : z_Fx M M29 := hFx.tr (by rw [hM29]; exact hFc)
              have hOk : z_Ok M29 := hOk0.fx hFx
              refine lv_aload_n hx hb dX3_step_93 rfl (lv_at hl 0 rfl) ?_
              refine z_cVv (D := (dC, dI)) (cl := vwCl) (tys := zt ca) (nw := zw_nest) (C := RX3) (As := []) (rest := []) ⟨hx, hb, hml, hown, hts⟩ (m_X3_spill l dC dI ca ad hI M29 hOk) (cwV 0 hts gX3_step_X3_spill rfl rfl rfl (by decide +kernel) ⟨Nat.le_of_ble_eq_true rfl, Nat.le_of_ble_eq_true rfl⟩) (z_recv (ci := 3) (i := 0) hK hH zk_0 (by decide) rfl) hH hK hN zw_nest_ok rfl hl.1 rfl (Nat.le_of_ble_eq_true rfl) dX3_step_94 ⟨Nat.le_refl _, Nat.le_refl _⟩ hS (fun _ h => h) (fun H locs hB1 oq1 hz1 hS => ?_)
              obtain ⟨hH, hFc⟩ := hB1
              obtain ⟨M30, hM30⟩ : ∃ z : zM, z = fX3_spill M29  := ⟨_, rfl⟩
              have hH : z_H (dC, dI) vwCl zf ca zd ad M30 H := by rw [hM30]; exact hH
              have hFx : z_Fx M M30 := hFx.tr (by rw [hM30]; exact hFc)
              have hOk : z_Ok M30 := hOk0.fx hFx
              refine lv_iconst (v := 0) hx hb dX3_step_97 (by decide) ?_
              refine lv_istore_n (lv' := [(3, .int 0), (0, .ref (ad 0)), (1, .int x4), (2, .int a18)]) hx hb dX3_step_98 rfl hl (by decide) rfl (fun ls hl => ?_)
              refine lv_iconst (v := 0) hx hb dX3_step_99 (by decide) ?_
              refine lv_istore (lv' := [(4, .int 0), (3, .int 0), (0, .ref (ad 0)), (1, .int x4), (2, .int a18)]) hx hb dX3_step_100 hl (by decide) rfl (fun ls hl => ?_)
              have L36 : ∀ (d33 k31 : Nat), k31 ≤ zc12 M → zc12 M - k31 < d33 → ∀ M34 : zM, ∀ a35 : Int32, (M34, a35) = zit (bX3_step_102 x4) k31 (M30, 0) → ∀ i32 : Int32, i32 = nI k31 → ∀ ls : Array Slot, lv_has ls 5 [(0, .ref (ad 0)), (1, .int x4), (2, .int a18), (3, .int a35), (4, .int i32)] → ∀ (H : Heap) (locs : List Loc), zW dC dI ca ad M34 H → z_Fx M M34 → va_S (z_A zd ad) s.heap H locs → W p l e (headSpec wsX3_step ({ frames := 3, cells := 0, slots := 0, locals := 73 })).room s m ([.ref (ad 0)] : List Value).toArray below meth c H locs 0 0 (MQ below (z_Qv (fun H => zW dC dI ca ad (fX3_step M ) H ∧ z_Fx M (fX3_step M )) (z_A zd ad)) ([.ref (ad 0)] : List Value).toArray s 0 0 (z_A zd ad)) (F0 m 102 ls []) := by
                intro d33
                induction d33 with
                | zero => intro k31 hk31 hd; exact absurd hd (by omega)
                | succ d33 ihk31 =>
                  intro k31 hk31 hd M34 a35 esk31 i32 ei32 ls hl H locs hH hFx hS
                  have hOk : z_Ok M34 := hOk0.fx hFx
                  refine lv_iload hx hb dX3_step_102 (lv_at hl 4 rfl) ?_
                  refine lv_aload_n hx hb dX3_step_104 rfl (lv_at hl 0 rfl) ?_
                  refine z_gi (D := (dC, dI)) (cl := vwCl) (C := RX3) (T := TX3) (N := 15) (ci := 3) (k := 12) hx hb hts hinX3 hown hK hH zk_0 (by decide) rfl (by decide) rfl (hts (.fieldLink RX3 105 "Steamfield$Land" "wellCount" "I") (by decide +kernel)) (fun _ h9 => h9) dX3_step_105 ?_
                  refine lv_topi (fun x37 ex37 => ?_)
                  have hx37 : x37 = nI (zc12 M) := by rw [ex37, hFx.c12]; exact z_Ok.c12 hOk0
                  refine lv_icmp_ge (tgt := 145) hx hb dX3_step_108 (by decide) (fun c38 => ?_) (fun c38 => ?_)
                  · have hkk31 : k31 = zc12 M := z_ge hx37 ei32 hk31 (Nat.lt_of_le_of_lt (z_Ok.n12 hOk0) (by decide)) c38
                    have qM34 : M34 = (zit (bX3_step_102 x4) (zc12 M) (M30, 0)).1 := by rw [← hkk31, ← esk31]
                    have qa35 : a35 = (zit (bX3_step_102 x4) (zc12 M) (M30, 0)).2 := by rw [← hkk31, ← esk31]
                    refine lv_aload_n hx hb dX3_step_145 rfl (lv_at hl 0 rfl) ?_
                    refine z_gr (D := (dC, dI)) (cl := vwCl) (C := RX3) (T := TX3) (N := 15) (ci := 3) (k := 8) hx hb hts hinX3 hown hK hH zk_0 (by decide) rfl (by decide) rfl (zr_0 (k := 8) (by decide)) (hts (.fieldLink RX3 60 "Steamfield$Land" "shocks" "[I") (by decide +kernel)) (fun _ h9 => h9) dX3_step_146 ?_
                    refine lv_aload_n hx hb dX3_step_149 rfl (lv_at hl 0 rfl) ?_
                    refine z_gi (D := (dC, dI)) (cl := vwCl) (C := RX3) (T := TX3) (N := 15) (ci := 3) (k := 14) hx hb hts hinX3 hown hK hH zk_0 (by decide) rfl (by decide) rfl (hts (.fieldLink RX3 111 "Steamfield$Land" "now" "I") (by decide +kernel)) (fun _ h9 => h9) dX3_step_150 ?_
                    refine lv_topi (fun x45 ex45 => ?_)
                    refine lv_iconst (v := 3) hx hb dX3_step_153 (by decide) ?_
                    refine lv_iand hx hb dX3_step_154 ?_
                    refine lv_topi (fun x46 ex46 => ?_)
                    have hx46 : z_ix x46 4 := by rw [ex46]; exact z_and3 _
                    refine lv_iload_n hx hb dX3_step_155 rfl (lv_at hl 3 rfl) ?_
                    refine zp_as (t0 := 0) (D := (dC, dI)) (cl := vwCl) (tys := zt ca) hx hb hK hH hI hS (fun _ h => h) zk_9 rfl (show vp_in x46 4 from (z_ix.in hx46)) dX3_step_156 (fun H locs hH oq hS => ?_)
                    obtain ⟨M47, hM47⟩ : ∃ z : zM, z = zu M34 9 x46.toNatClampNeg a35 := ⟨_, rfl⟩
                    rw [← hM47] at hH
                    have hFx : z_Fx M M47 := hFx.tr (by rw [hM47]; exact (z_Fx.u zk_9 rfl))
                    have hOk : z_Ok M47 := hOk0.fx hFx
                    refine lv_iconst (v := 0) hx hb dX3_step_157 (by decide) ?_
                    refine lv_istore (lv' := [(4, .int 0), (0, .ref (ad 0)), (1, .int x4), (2, .int a18), (3, .int a35)]) hx hb dX3_step_158 hl (by decide) rfl (fun ls hl => ?_)
                    have L52 : ∀ (d50 k48 : Nat), k48 ≤ zc13 M → zc13 M - k48 < d50 → ∀ M51 : zM, M51 = zit (bX3_step_160) k48 M47 → ∀ i49 : Int32, i49 = nI k48 → ∀ ls : Array Slot, lv_has ls 5 [(0, .ref (ad 0)), (1, .int x4), (2, .int a18), (3, .int a35), (4, .int i49)] → ∀ (H : Heap) (locs : List Loc), zW dC dI ca ad M51 H → z_Fx M M51 → va_S (z_A zd ad) s.heap H locs → W p l e (headSpec wsX3_step ({ frames := 3, cells := 0, slots := 0, locals := 73 })).room s m ([.ref (ad 0)] : List Value).toArray below meth c H locs 0 0 (MQ below (z_Qv (fun H => zW dC dI ca ad (fX3_step M ) H ∧ z_Fx M (fX3_step M )) (z_A zd ad)) ([.ref (ad 0)] : List Value).toArray s 0 0 (z_A zd ad)) (F0 m 160 ls []) := by
                      intro d50
                      induction d50 with
                      | zero => intro k48 hk48 hd; exact absurd hd (by omega)
                      | succ d50 ihk48 =>
                        intro k48 hk48 hd M51 esk48 i49 ei49 ls hl H locs hH hFx hS
                        have hOk : z_Ok M51 := hOk0.fx hFx
                        refine lv_iload hx hb dX3_step_160 (lv_at hl 4 rfl) ?_
                        refine lv_aload_n hx hb dX3_step_162 rfl (lv_at hl 0 rfl) ?_
                        refine z_gi (D := (dC, dI)) (cl := vwCl) (C := RX3) (T := TX3) (N := 15) (ci := 3) (k := 13) hx hb hts hinX3 hown hK hH zk_0 (by decide) rfl (by decide) rfl (hts (.fieldLink RX3 108 "Steamfield$Land" "springCount" "I") (by decide +kernel)) (fun _ h9 => h9) dX3_step_163 ?_
                        refine lv_topi (fun x53 ex53 => ?_)
                        have hx53 : x53 = nI (zc13 M) := by rw [ex53, hFx.c13]; exact z_Ok.c13 hOk0
                        refine lv_icmp_ge (tgt := 186) hx hb dX3_step_166 (by decide) (fun c54 => ?_) (fun c54 => ?_)
                        · have hkk48 : k48 = zc13 M := z_ge hx53 ei49 hk48 (Nat.lt_of_le_of_lt (z_Ok.n13 hOk0) (by decide)) c54
                          have qM51 : M51 = (zit (bX3_step_160) (zc13 M) M47) := by rw [← hkk48, ← esk48]
                          refine lv_aload_n hx hb dX3_step_186 rfl (lv_at hl 0 rfl) ?_
                          refine z_cVv (D := (dC, dI)) (cl := vwCl) (tys := zt ca) (nw := zw_nest) (C := RX3) (As := []) (rest := []) ⟨hx, hb, hml, hown, hts⟩ (m_X3_shareOut l dC dI ca ad hI M51 hOk) (cwV 0 hts gX3_step_X3_shareOut rfl rfl rfl (by decide +kernel) ⟨Nat.le_of_ble_eq_true rfl, Nat.le_of_ble_eq_true rfl⟩) (z_recv (ci := 3) (i := 0) hK hH zk_0 (by decide) rfl) hH hK hN zw_nest_ok rfl hl.1 rfl (Nat.le_of_ble_eq_true rfl) dX3_step_187 ⟨Nat.le_refl _, Nat.le_refl _⟩ hS (fun _ h => h) (fun H locs hB1 oq1 hz1 hS => ?_)
                          obtain ⟨hH, hFc⟩ := hB1
                          obtain ⟨M57, hM57⟩ : ∃ z : zM, z = fX3_shareOut M51  := ⟨_, rfl⟩
                          have hH : z_H (dC, dI) vwCl zf ca zd ad M57 H := by rw [hM57]; exact hH
                          have hFx : z_Fx M M57 := hFx.tr (by rw [hM57]; exact hFc)
                          have hOk : z_Ok M57 := hOk0.fx hFx
                          refine lv_aload_n hx hb dX3_step_190 rfl (lv_at hl 0 rfl) ?_
                          refine z_cVv (D := (dC, dI)) (cl := vwCl) (tys := zt ca) (nw := zw_nest) (C := RX3) (As := []) (rest := []) ⟨hx, hb, hml, hown, hts⟩ (m_X3_payForLacks l dC dI ca ad hI M57 hOk) (cwV 0 hts gX3_step_X3_payForLacks rfl rfl rfl (by decide +kernel) ⟨Nat.le_of_ble_eq_true rfl, Nat.le_of_ble_eq_true rfl⟩) (z_recv (ci := 3) (i := 0) hK hH zk_0 (by decide) rfl) hH hK hN zw_nest_ok rfl hl.1 rfl (Nat.le_of_ble_eq_true rfl) dX3_step_191 ⟨Nat.le_refl _, Nat.le_refl _⟩ hS (fun _ h => h) (fun H locs hB1 oq1 hz1 hS => ?_)
                          obtain ⟨hH, hFc⟩ := hB1
                          obtain ⟨M58, hM58⟩ : ∃ z : zM, z = fX3_payForLacks M57  := ⟨_, rfl⟩
                          have hH : z_H (dC, dI) vwCl zf ca zd ad M58 H := by rw [hM58]; exact hH
                          have hFx : z_Fx M M58 := hFx.tr (by rw [hM58]; exact hFc)
                          have hOk : z_Ok M58 := hOk0.fx hFx
                          have hF0 : zW dC dI ca ad (fX3_step M ) H := by
                            have e9 : M58 = (fX3_step M ) := by subst hM58; subst hM57; subst qM51; subst hM47; subst ex46; subst ex45; subst qa35; subst qM34; subst hM30; subst hM29; subst hM28; subst qa18; subst qM17; subst qM8; subst ex4; subst hM3; subst ex2; subst ex1; rfl
                            rw [← e9]; exact hH
                          have hFF : z_Fx M (fX3_step M ) := by
                            have e9 : M58 = (fX3_step M ) := by subst hM58; subst hM57; subst qM51; subst hM47; subst ex46; subst ex45; subst qa35; subst qM34; subst hM30; subst hM29; subst hM28; subst qa18; subst qM17; subst qM8; subst ex4; subst hM3; subst ex2; subst ex1; rfl
                            rw [← e9]; exact hFx
                          exact W.vret hx hb hr (fun t ht hW => ⟨⟨(), rfl, trivial, z_to (B := fun H => zW dC dI ca ad (fX3_step M ) H ∧ z_Fx M (fX3_step M )) ht ⟨hF0, hFF⟩⟩, hS.F ht⟩) hS.2.2 dX3_step_194
                        · have hkk48 : k48 < zc13 M := z_lt hx53 ei49 hk48 (Nat.lt_of_le_of_lt (z_Ok.n13 hOk0) (by decide)) c54
                          refine lv_aload_n hx hb dX3_step_169 rfl (lv_at hl 0 rfl) ?_
                          refine lv_aload_n hx hb dX3_step_170 rfl (lv_at hl 0 rfl) ?_
                          refine z_gr (D := (dC, dI)) (cl := vwCl) (C := RX3) (T := TX3) (N := 15) (ci := 3) (k := 3) hx hb hts hinX3 hown hK hH zk_0 (by decide) rfl (by decide) rfl (zr_0 (k := 3) (by decide)) (hts (.fieldLink RX3 31 "Steamfield$Land" "springs" "[LSteamfield$Spring;") (by decide +kernel)) (fun _ h9 => h9) dX3_step_171 ?_
                          refine lv_iload hx hb dX3_step_174 (lv_at hl 4 rfl) ?_
                          refine z_aq (t0 := 4) (D := (dC, dI)) (cl := vwCl) (tys := zt ca) hx hb hK hH zk_4 (by decide) (by decide) rfl (show vp_in i49 3 from (zx ei49 (Nat.lt_of_lt_of_le hkk48 (z_Ok.n13 hOk0)) (by decide))) (show zr 4 (i49 : Int32).toNatClampNeg = some (70 + k48) from by rw [zx_n ei49 (Nat.lt_trans (Nat.lt_of_lt_of_le hkk48 (z_Ok.n13 hOk0)) (by decide : 3 < 2 ^ 31))]; exact zr_4 (Nat.lt_of_lt_of_le hkk48 (z_Ok.n13 hOk0))) dX3_step_176 ?_
                          refine z_cVv (D := (dC, dI)) (cl := vwCl) (tys := zt ca) (nw := zw_nest) (C := RX3) (As := [.ref (ad (70 + k48))]) (rest := []) ⟨hx, hb, hml, hown, hts⟩ (m_X3_letFlow l dC dI ca ad hI M51 k48 (Nat.lt_of_lt_of_le hkk48 (z_Ok.n13 hOk0)) hOk) (cwV 1 hts gX3_step_X3_letFlow rfl rfl rfl (by decide +kernel) ⟨Nat.le_of_ble_eq_true rfl, Nat.le_of_ble_eq_true rfl⟩) (z_recv (ci := 3) (i := 0) hK hH zk_0 (by decide) rfl) hH hK hN zw_nest_ok rfl hl.1 rfl (Nat.le_of_ble_eq_true rfl) dX3_step_177 ⟨Nat.le_refl _, Nat.le_refl _⟩ hS (fun _ h => h) (fun H locs hB1 oq1 hz1 hS => ?_)
                          obtain ⟨hH, hFc⟩ := hB1
                          obtain ⟨M55, hM55⟩ : ∃ z : zM, z = fX3_letFlow M51 k48 := ⟨_, rfl⟩
                          have hH : z_H (dC, dI) vwCl zf ca zd ad M55 H := by rw [hM55]; exact hH
                          have hFx : z_Fx M M55 := hFx.tr (by rw [hM55]; exact hFc)
                          have hOk : z_Ok M55 := hOk0.fx hFx
                          obtain ⟨x56, ex56⟩ : ∃ z : Int32, z = i49 + 1 := ⟨_, rfl⟩
                          refine lv_iinc (v := x56) (lv' := [(4, .int x56), (0, .ref (ad 0)), (1, .int x4), (2, .int a18), (3, .int a35)]) hx hb dX3_step_180 hl (k := 4) rfl (by rw [ex56]; rfl) (by decide) rfl (fun ls hl => ?_)
                          refine lv_goto (tgt := 160) hx hb dX3_step_183 (by decide) ?_
                          exact ihk48 (k48 + 1) hkk48 (by omega) M55 (by rw [zit_s, ← esk48]; subst ex56; subst hM55; subst ex53; subst ei49; rfl) x56 (z_nx ei49 ex56) ls (lv_sub hl [1, 2, 3, 4, 0] rfl) _ _ hH hFx hS
                    exact L52 (zc13 M + 1) 0 (Nat.zero_le _) (by omega) M47 (zit_0 _ _).symm _ rfl ls (lv_sub hl [1, 2, 3, 4, 0] rfl) H locs hH hFx hS
                  · have hkk31 : k31 < zc12 M := z_lt hx37 ei32 hk31 (Nat.lt_of_le_of_lt (z_Ok.n12 hOk0) (by decide)) c38
                    refine lv_aload_n hx hb dX3_step_111 rfl (lv_at hl 0 rfl) ?_
                    refine z_gr (D := (dC, dI)) (cl := vwCl) (C := RX3) (T := TX3) (N := 15) (ci := 3) (k := 2) hx hb hts hinX3 hown hK hH zk_0 (by decide) rfl (by decide) rfl (zr_0 (k := 2) (by decide)) (hts (.fieldLink RX3 25 "Steamfield$Land" "wells" "[LSteamfield$Well;") (by decide +kernel)) (fun _ h9 => h9) dX3_step_112 ?_
                    refine lv_iload hx hb dX3_step_115 (lv_at hl 4 rfl) ?_
                    refine z_aq (t0 := 3) (D := (dC, dI)) (cl := vwCl) (tys := zt ca) hx hb hK hH zk_3 (by decide) (by decide) rfl (show vp_in i32 6 from (zx ei32 (Nat.lt_of_lt_of_le hkk31 (z_Ok.n12 hOk0)) (by decide))) (show zr 3 (i32 : Int32).toNatClampNeg = some (60 + k31) from by rw [zx_n ei32 (Nat.lt_trans (Nat.lt_of_lt_of_le hkk31 (z_Ok.n12 hOk0)) (by decide : 6 < 2 ^ 31))]; exact zr_3 (Nat.lt_of_lt_of_le hkk31 (z_Ok.n12 hOk0))) dX3_step_117 ?_
                    refine z_giN (D := (dC, dI)) (cl := vwCl) (C := RX7) (T := TX7) (N := 9) (ci := 7) (k := 1) hx hb hts hinX7 hown hK hH (zk_v (Nat.lt_of_lt_of_le hkk31 (z_Ok.n12 hOk0))) (by decide) rfl (by decide) rfl (hN (.fieldLinkNest RX3 139 "Steamfield$Well" "isInjector" "Z" "Steamfield") (by decide +kernel)) (fun _ h9 => h9) dX3_step_118 ?_
                    refine lv_topi (fun x39 ex39 => ?_)
                    have J43 : ∀ x41 : Int32, x41 = (if x39 = 0 then a35 else (let x41 : Int32 := rX3_inject M34 k31 x4; let M42 : zM := fX3_inject M34 k31 x4; let x43 : Int32 := a35 + x41; x43)) → ∀ M42 : zM, M42 = (if x39 = 0 then M34 else (let x41 : Int32 := rX3_inject M34 k31 x4; let M42 : zM := fX3_inject M34 k31 x4; let x43 : Int32 := a35 + x41; M42)) → ∀ ls : Array Slot, lv_has ls 5 [(0, .ref (ad 0)), (1, .int x4), (2, .int a18), (3, .int x41), (4, .int i32)] → ∀ (H : Heap) (locs : List Loc), zW dC dI ca ad M42 H → z_Fx M M42 → va_S (z_A zd ad) s.heap H locs → W p l e (headSpec wsX3_step ({ frames := 3, cells := 0, slots := 0, locals := 73 })).room s m ([.ref (ad 0)] : List Value).toArray below meth c H locs 0 0 (MQ below (z_Qv (fun H => zW dC dI ca ad (fX3_step M ) H ∧ z_Fx M (fX3_step M )) (z_A zd ad)) ([.ref (ad 0)] : List Value).toArray s 0 0 (z_A zd ad)) (F0 m 139 ls []) := by
                      intro x41 ex41 M42 hM42 ls hl H locs hH hFx hS
                      have hOk : z_Ok M42 := hOk0.fx hFx
                      obtain ⟨x44, ex44⟩ : ∃ z : Int32, z = i32 + 1 := ⟨_, rfl⟩
                      refine lv_iinc (v := x44) (lv' := [(4, .int x44), (0, .ref (ad 0)), (1, .int x4), (2, .int a18), (3, .int x41)]) hx hb dX3_step_139 hl (k := 4) rfl (by rw [ex44]; rfl) (by decide) rfl (fun ls hl => ?_)
                      refine lv_goto (tgt := 102) hx hb dX3_step_142 (by decide) ?_
                      exact ihk31 (k31 + 1) hkk31 (by omega) M42 x41 (by rw [zit_s, ← esk31]; subst ex44; subst hM42; subst ex41; subst ex39; subst ex37; subst ei32; rfl) x44 (z_nx ei32 ex44) ls (lv_sub hl [1, 2, 3, 4, 0] rfl) _ _ hH hFx hS
                    refine lv_if_eq (tgt := 139) hx hb dX3_step_121 (by decide) (fun c40 => ?_) (fun c40 => ?_)
                    · exact J43 _ (by exact (if_pos c40).symm) _ (by exact (if_pos c40).symm) ls (lv_sub hl [0, 1, 2, 3, 4] rfl) _ _ hH hFx hS
                    · refine lv_iload_n hx hb dX3_step_124 rfl (lv_at hl 3 rfl) ?_
                      refine lv_aload_n hx hb dX3_step_125 rfl (lv_at hl 0 rfl) ?_
                      refine lv_aload_n hx hb dX3_step_126 rfl (lv_at hl 0 rfl) ?_
                      refine z_gr (D := (dC, dI)) (cl := vwCl) (C := RX3) (T := TX3) (N := 15) (ci := 3) (k := 2) hx hb hts hinX3 hown hK hH zk_0 (by decide) rfl (by decide) rfl (zr_0 (k := 2) (by decide)) (hts (.fieldLink RX3 25 "Steamfield$Land" "wells" "[LSteamfield$Well;") (by decide +kernel)) (fun _ h9 => h9) dX3_step_127 ?_
                      refine lv_iload hx hb dX3_step_130 (lv_at hl 4 rfl) ?_
                      refine z_aq (t0 := 3) (D := (dC, dI)) (cl := vwCl) (tys := zt ca) hx hb hK hH zk_3 (by decide) (by decide) rfl (show vp_in i32 6 from (zx ei32 (Nat.lt_of_lt_of_le hkk31 (z_Ok.n12 hOk0)) (by decide))) (show zr 3 (i32 : Int32).toNatClampNeg = some (60 + k31) from by rw [zx_n ei32 (Nat.lt_trans (Nat.lt_of_lt_of_le hkk31 (z_Ok.n12 hOk0)) (by decide : 6 < 2 ^ 31))]; exact zr_3 (Nat.lt_of_lt_of_le hkk31 (z_Ok.n12 hOk0))) dX3_step_132 ?_
                      refine lv_iload_n hx hb dX3_step_133 rfl (lv_at hl 1 rfl) ?_
                      refine z_cVi (D := (dC, dI)) (cl := vwCl) (tys := zt ca) (nw := zw_nest) (C := RX3) (As := [.ref (ad (60 + k31)), .int x4]) (rest := [.int a35]) ⟨hx, hb, hml, hown, hts⟩ (m_X3_inject l dC dI ca ad hI M34 k31 (Nat.lt_of_lt_of_le hkk31 (z_Ok.n12 hOk0)) x4 hOk) (cwV 2 hts gX3_step_X3_inject rfl rfl rfl (by decide +kernel) ⟨Nat.le_of_ble_eq_true rfl, Nat.le_of_ble_eq_true rfl⟩) (z_recv (ci := 3) (i := 0) hK hH zk_0 (by decide) rfl) hH hK hN zw_nest_ok rfl hl.1 rfl (Nat.le_of_ble_eq_true rfl) dX3_step_134 ⟨Nat.le_refl _, Nat.le_refl _⟩ hS (fun _ h => h) (fun H locs hB1 oq1 hz1 hS => ?_)
                      obtain ⟨hH, hFc⟩ := hB1
                      refine lv_topi (fun x41 ex41 => ?_)
                      obtain ⟨M42, hM42⟩ : ∃ z : zM, z = fX3_inject M34 k31 x4 := ⟨_, rfl⟩
                      have hH : z_H (dC, dI) vwCl zf ca zd ad M42 H := by rw [hM42]; exact hH
                      have hFx : z_Fx M M42 := hFx.tr (by rw [hM42]; exact hFc)
                      have hOk : z_Ok M42 := hOk0.fx hFx
                      refine lv_iadd hx hb dX3_step_137 ?_
                      refine lv_topi (fun x43 ex43 => ?_)
                      refine lv_istore_n (lv' := [(3, .int x43), (0, .ref (ad 0)), (1, .int x4), (2, .int a18), (4, .int i32)]) hx hb dX3_step_138 rfl hl (by decide) rfl (fun ls hl => ?_)
                      exact J43 _ (by subst ex43; subst hM42; subst ex41; exact (if_neg c40).symm) _ (by subst ex43; subst hM42; subst ex41; exact (if_neg c40).symm) ls (lv_sub hl [1, 2, 3, 0, 4] rfl) _ _ hH hFx hS
              exact L36 (zc12 M + 1) 0 (Nat.zero_le _) (by omega) M30 0 (zit_0 _ _).symm _ rfl ls (lv_sub hl [2, 3, 4, 1, 0] rfl) H locs hH hFx hS
            · have hkk14 : k14 < zc12 M := z_lt hx20 ei15 hk14 (Nat.lt_of_le_of_lt (z_Ok.n12 hOk0) (by decide)) c21
              refine lv_aload_n hx hb dX3_step_53 rfl (lv_at hl 0 rfl) ?_
              refine z_gr (D := (dC, dI)) (cl := vwCl) (C := RX3) (T := TX3) (N := 15) (ci := 3) (k := 2) hx hb hts hinX3 hown hK hH zk_0 (by decide) rfl (by decide) rfl (zr_0 (k := 2) (by decide)) (hts (.fieldLink RX3 25 "Steamfield$Land" "wells" "[LSteamfield$Well;") (by decide +kernel)) (fun _ h9 => h9) dX3_step_54 ?_
              refine lv_iload_n hx hb dX3_step_57 rfl (lv_at hl 3 rfl) ?_
              refine z_aq (t0 := 3) (D := (dC, dI)) (cl := vwCl) (tys := zt ca) hx hb hK hH zk_3 (by decide) (by decide) rfl (show vp_in i15 6 from (zx ei15 (Nat.lt_of_lt_of_le hkk14 (z_Ok.n12 hOk0)) (by decide))) (show zr 3 (i15 : Int32).toNatClampNeg = some (60 + k14) from by rw [zx_n ei15 (Nat.lt_trans (Nat.lt_of_lt_of_le hkk14 (z_Ok.n12 hOk0)) (by decide : 6 < 2 ^ 31))]; exact zr_3 (Nat.lt_of_lt_of_le hkk14 (z_Ok.n12 hOk0))) dX3_step_58 ?_
              refine z_giN (D := (dC, dI)) (cl := vwCl) (C := RX7) (T := TX7) (N := 9) (ci := 7) (k := 1) hx hb hts hinX7 hown hK hH (zk_v (Nat.lt_of_lt_of_le hkk14 (z_Ok.n12 hOk0))) (by decide) rfl (by decide) rfl (hN (.fieldLinkNest RX3 139 "Steamfield$Well" "isInjector" "Z" "Steamfield") (by decide +kernel)) (fun _ h9 => h9) dX3_step_59 ?_
              refine lv_topi (fun x22 ex22 => ?_)
              have J26 : ∀ x24 : Int32, x24 = (if ¬ x22 = 0 then a18 else (let x24 : Int32 := rX3_produce M17 k14; let M25 : zM := fX3_produce M17 k14; let x26 : Int32 := a18 + x24; x26)) → ∀ M25 : zM, M25 = (if ¬ x22 = 0 then M17 else (let x24 : Int32 := rX3_produce M17 k14; let M25 : zM := fX3_produce M17 k14; let x26 : Int32 := a18 + x24; M25)) → ∀ ls : Array Slot, lv_has ls 5 [(0, .ref (ad 0)), (1, .int x4), (2, .int x24), (3, .int i15)] → ∀ (H : Heap) (locs : List Loc), zW dC dI ca ad M25 H → z_Fx M M25 → va_S (z_A zd ad) s.heap H locs → W p l e (headSpec wsX3_step ({ frames := 3, cells := 0, slots := 0, locals := 73 })).room s m ([.ref (ad 0)] : List Value).toArray below meth c H locs 0 0 (MQ below (z_Qv (fun H => zW dC dI ca ad (fX3_step M ) H ∧ z_Fx M (fX3_step M )) (z_A zd ad)) ([.ref (ad 0)] : List Value).toArray s 0 0 (z_A zd ad)) (F0 m 78 ls []) := by
                intro x24 ex24 M25 hM25 ls hl H locs hH hFx hS
                have hOk : z_Ok M25 := hOk0.fx hFx
                obtain ⟨x27, ex27⟩ : ∃ z : Int32, z = i15 + 1 := ⟨_, rfl⟩
                refine lv_iinc (v := x27) (lv' := [(3, .int x27), (0, .ref (ad 0)), (1, .int x4), (2, .int x24)]) hx hb dX3_step_78 hl (k := 3) rfl (by rw [ex27]; rfl) (by decide) rfl (fun ls hl => ?_)
                refine lv_goto (tgt := 45) hx hb dX3_step_81 (by decide) ?_
                exact ihk14 (k14 + 1) hkk14 (by omega) M25 x24 (by rw [zit_s, ← esk14]; subst ex27; subst hM25; subst ex24; subst ex22; subst ex20; subst ei15; rfl) x27 (z_nx ei15 ex27) ls (lv_sub hl [1, 2, 3, 0] rfl) _ _ hH hFx hS
              refine lv_if_ne (tgt := 78) hx hb dX3_step_62 (by decide) (fun c23 => ?_) (fun c23 => ?_)
              · exact J26 _ (by exact (if_pos c23).symm) _ (by exact (if_pos c23).symm) ls (lv_sub hl [0, 1, 2, 3] rfl) _ _ hH hFx hS
              · refine lv_iload_n hx hb dX3_step_65 rfl (lv_at hl 2 rfl) ?_
                refine lv_aload_n hx hb dX3_step_66 rfl (lv_at hl 0 rfl) ?_
                refine lv_aload_n hx hb dX3_step_67 rfl (lv_at hl 0 rfl) ?_
                refine z_gr (D := (dC, dI)) (cl := vwCl) (C := RX3) (T := TX3) (N := 15) (ci := 3) (k := 2) hx hb hts hinX3 hown hK hH zk_0 (by decide) rfl (by decide) rfl (zr_0 (k := 2) (by decide)) (hts (.fieldLink RX3 25 "Steamfield$Land" "wells" "[LSteamfield$Well;") (by decide +kernel)) (fun _ h9 => h9) dX3_step_68 ?_
                refine lv_iload_n hx hb dX3_step_71 rfl (lv_at hl 3 rfl) ?_
                refine z_aq (t0 := 3) (D := (dC, dI)) (cl := vwCl) (tys := zt ca) hx hb hK hH zk_3 (by decide) (by decide) rfl (show vp_in i15 6 from (zx ei15 (Nat.lt_of_lt_of_le hkk14 (z_Ok.n12 hOk0)) (by decide))) (show zr 3 (i15 : Int32).toNatClampNeg = some (60 + k14) from by rw [zx_n ei15 (Nat.lt_trans (Nat.lt_of_lt_of_le hkk14 (z_Ok.n12 hOk0)) (by decide : 6 < 2 ^ 31))]; exact zr_3 (Nat.lt_of_lt_of_le hkk14 (z_Ok.n12 hOk0))) dX3_step_72 ?_
                refine z_cVi (D := (dC, dI)) (cl := vwCl) (tys := zt ca) (nw := zw_nest) (C := RX3) (As := [.ref (ad (60 + k14))]) (rest := [.int a18]) ⟨hx, hb, hml, hown, hts⟩ (m_X3_produce l dC dI ca ad hI M17 k14 (Nat.lt_of_lt_of_le hkk14 (z_Ok.n12 hOk0)) hOk) (cwV 1 hts gX3_step_X3_produce rfl rfl rfl (by decide +kernel) ⟨Nat.le_of_ble_eq_true rfl, Nat.le_of_ble_eq_true rfl⟩) (z_recv (ci := 3) (i := 0) hK hH zk_0 (by decide) rfl) hH hK hN zw_nest_ok rfl hl.1 rfl (Nat.le_of_ble_eq_true rfl) dX3_step_73 ⟨Nat.le_refl _, Nat.le_refl _⟩ hS (fun _ h => h) (fun H locs hB1 oq1 hz1 hS => ?_)
                obtain ⟨hH, hFc⟩ := hB1
                refine lv_topi (fun x24 ex24 => ?_)
                obtain ⟨M25, hM25⟩ : ∃ z : zM, z = fX3_produce M17 k14 := ⟨_, rfl⟩
                have hH : z_H (dC, dI) vwCl zf ca zd ad M25 H := by rw [hM25]; exact hH
                have hFx : z_Fx M M25 := hFx.tr (by rw [hM25]; exact hFc)
                have hOk : z_Ok M25 := hOk0.fx hFx
                refine lv_iadd hx hb dX3_step_76 ?_
                refine lv_topi (fun x26 ex26 => ?_)
                refine lv_istore_n (lv' := [(2, .int x26), (0, .ref (ad 0)), (1, .int x4), (3, .int i15)]) hx hb dX3_step_77 rfl hl (by decide) rfl (fun ls hl => ?_)
                exact J26 _ (by subst ex26; subst hM25; subst ex24; exact (if_neg (fun hh => hh c23)).symm) _ (by subst ex26; subst hM25; subst ex24; exact (if_neg (fun hh => hh c23)).symm) ls (lv_sub hl [1, 2, 0, 3] rfl) _ _ hH hFx hS
        exact L19 (zc12 M + 1) 0 (Nat.zero_le _) (by omega) M8 0 (zit_0 _ _).symm _ rfl ls (lv_sub hl [2, 3, 1, 0] rfl) H locs hH hFx hS
      · have hkk5 : k5 < zc11 M := z_lt hx10 ei6 hk5 (Nat.lt_of_le_of_lt (z_Ok.n11 hOk0) (by decide)) c11
        refine lv_aload_n hx hb dX3_step_25 rfl (lv_at hl 0 rfl) ?_
        refine lv_aload_n hx hb dX3_step_26 rfl (lv_at hl 0 rfl) ?_
        refine z_gr (D := (dC, dI)) (cl := vwCl) (C := RX3) (T := TX3) (N := 15) (ci := 3) (k := 1) hx hb hts hinX3 hown hK hH zk_0 (by decide) rfl (by decide) rfl (zr_0 (k := 1) (by decide)) (hts (.fieldLink RX3 19 "Steamfield$Land" "faces" "[LSteamfield$Face;") (by decide +kernel)) (fun _ h9 => h9) dX3_step_27 ?_
        refine lv_iload_n hx hb dX3_step_30 rfl (lv_at hl 2 rfl) ?_
        refine z_aq (t0 := 2) (D := (dC, dI)) (cl := vwCl) (tys := zt ca) hx hb hK hH zk_2 (by decide) (by decide) rfl (show vp_in i6 12 from (zx ei6 (Nat.lt_of_lt_of_le hkk5 (z_Ok.n11 hOk0)) (by decide))) (show zr 2 (i6 : Int32).toNatClampNeg = some (40 + k5) from by rw [zx_n ei6 (Nat.lt_trans (Nat.lt_of_lt_of_le hkk5 (z_Ok.n11 hOk0)) (by decide : 12 < 2 ^ 31))]; exact zr_2 (Nat.lt_of_lt_of_le hkk5 (z_Ok.n11 hOk0))) dX3_step_31 ?_
        refine z_cVv (D := (dC, dI)) (cl := vwCl) (tys := zt ca) (nw := zw_nest) (C := RX3) (As := [.ref (ad (40 + k5))]) (rest := []) ⟨hx, hb, hml, hown, hts⟩ (m_X3_flowThrough l dC dI ca ad hI M8 k5 (Nat.lt_of_lt_of_le hkk5 (z_Ok.n11 hOk0)) hOk) (cwV 1 hts gX3_step_X3_flowThrough rfl rfl rfl (by decide +kernel) ⟨Nat.le_of_ble_eq_true rfl, Nat.le_of_ble_eq_true rfl⟩) (z_recv (ci := 3) (i := 0) hK hH zk_0 (by decide) rfl) hH hK hN zw_nest_ok rfl hl.1 rfl (Nat.le_of_ble_eq_true rfl) dX3_step_32 ⟨Nat.le_refl _, Nat.le_refl _⟩ hS (fun _ h => h) (fun H locs hB1 oq1 hz1 hS => ?_)
        obtain ⟨hH, hFc⟩ := hB1
        obtain ⟨M12, hM12⟩ : ∃ z : zM, z = fX3_flowThrough M8 k5 := ⟨_, rfl⟩
        have hH : z_H (dC, dI) vwCl zf ca zd ad M12 H := by rw [hM12]; exact hH
        have hFx : z_Fx M M12 := hFx.tr (by rw [hM12]; exact hFc)
        have hOk : z_Ok M12 := hOk0.fx hFx
        obtain ⟨x13, ex13⟩ : ∃ z : Int32, z = i6 + 1 := ⟨_, rfl⟩
        refine lv_iinc (v := x13) (lv' := [(2, .int x13), (0, .ref (ad 0)), (1, .int x4)]) hx hb dX3_step_35 hl (k := 2) rfl (by rw [ex13]; rfl) (by decide) rfl (fun ls hl => ?_)
        refine lv_goto (tgt := 17) hx hb dX3_step_38 (by decide) ?_
        exact ihk5 (k5 + 1) hkk5 (by omega) M12 (by rw [zit_s, ← esk5]; subst ex13; subst hM12; subst ex10; subst ei6; rfl) x13 (z_nx ei6 ex13) ls (lv_sub hl [1, 2, 0] rfl) _ _ hH hFx hS
  exact L9 (zc11 M + 1) 0 (Nat.zero_le _) (by omega) M3 (zit_0 _ _).symm _ rfl ls (lv_sub hl [2, 1, 0] rfl) H locs hH hFx hS

def bX8_powerIn_10  (k2 : Nat) (st : zM) : zM :=
  let M5 : zM := st
  let i3 : Int32 := nI k2
  let M8 : zM := fX3_step M5 
  M8
def fX8_powerIn (M : zM) (a0 : Int32) : zM :=
  let x1 : Int32 := M 6 3
  let M5 : zM := (zit (bX8_powerIn_10) (a0.toNatClampNeg) M)
  let x10 : Int32 := M5 6 3
  let x11 : Int32 := x10 - x1
  M5
def rX8_powerIn (M : zM) (a0 : Int32) : Int32 :=
  let x1 : Int32 := M 6 3
  let M5 : zM := (zit (bX8_powerIn_10) (a0.toNatClampNeg) M)
  let x10 : Int32 := M5 6 3
  let x11 : Int32 := x10 - x1
  x11
set_option maxHeartbeats 4000000 in
set_option maxRecDepth 100000 in
theorem m_X8_powerIn (l : Launch) (dC : Nat → ClassId) (dI : Nat → Nat → Nat) (ca : Nat → ClassId) (ad : Nat → Nat) (hI : z_I zd ad) (M : zM) (a0 : Int32) (hOk0 : z_Ok M) (h_st : z_ix a0 31) : Met l yX8_powerIn wsX8_powerIn ({ frames := 4, cells := 0, slots := 0, locals := 97 }) (z_Pc (dC, dI) vwCl (zt ca) zw_nest [.ref (ad 0), .int a0] (fun H => zW dC dI ca ad M H)) (z_Qi (rX8_powerIn M a0) (fun H => zW dC dI ca ad (fX8_powerIn M a0) H ∧ z_Fx M (fX8_powerIn M a0)) (z_A zd ad)) 0 0 (z_A zd ad) := by
  refine Met.ofW (cc := cX8_powerIn) (maxL := 4) (ret := (some .int)) (by decide) rfl ?_
  intro p e s m args below meth c s₁ B9 hml hv
  obtain ⟨rfl, hH, hK, hN⟩ := hv
  have hx := B9.exec
  have hb := B9.bytes
  have hr := B9.returns
  have hts := atoms_spec (ws := wsX8_powerIn) B9.pre
  have hown : s.vm.findClass RX8 = some m.cls := findClass_of_methodNamed B9.named
  have hlocks := B9.notSynchronized
  have hS : va_S (z_A zd ad) s.heap s.heap [] := va_S.rf
  have hOk := hOk0
  have hFx : z_Fx M M := z_Fx.rf
  have hH : zW dC dI ca ad M s.heap := hH
  have hinX3 : ∀ w ∈ u_ws RX3 TX3 15, w ∈ wsX8_powerIn := by decide +kernel
  have hinX4 : ∀ w ∈ u_ws RX4 TX4 6, w ∈ wsX8_powerIn := by decide +kernel
  have hl := lv_entry ([.ref (ad 0), .int a0]) (n := 4) (Nat.le_of_ble_eq_true rfl)
  rw [lg_entry_eq]
  generalize (lg_sl ([.ref (ad 0), .int a0]) ++ List.replicate (4 - (lg_sl ([.ref (ad 0), .int a0])).length) Slot.unset).toArray = ls at hl ⊢
  have hl : lv_has ls 4 [(0, .ref (ad 0)), (1, .int a0)] := hl
  refine lv_aload_n hx hb dX8_powerIn_0 rfl (lv_at hl 0 rfl) ?_
  refine z_grN (D := (dC, dI)) (cl := vwCl) (C := RX3) (T := TX3) (N := 15) (ci := 3) (k := 5) hx hb hts hinX3 hown hK hH zk_0 (by decide) rfl (by decide) rfl (zr_0 (k := 5) (by decide)) (hN (.fieldLinkNest RX8 154 "Steamfield$Land" "plant" "LSteamfield$Plant;" "Steamfield") (by decide +kernel)) (fun _ h9 => h9) dX8_powerIn_1 ?_
  refine z_giN (D := (dC, dI)) (cl := vwCl) (C := RX4) (T := TX4) (N := 6) (ci := 4) (k := 3) hx hb hts hinX4 hown hK hH zk_6 (by decide) rfl (by decide) rfl (hN (.fieldLinkNest RX8 239 "Steamfield$Plant" "powerEver" "I" "Steamfield") (by decide +kernel)) (fun _ h9 => h9) dX8_powerIn_4 ?_
  refine lv_topi (fun x1 ex1 => ?_)
  refine lv_istore_n (lv' := [(2, .int x1), (0, .ref (ad 0)), (1, .int a0)]) hx hb dX8_powerIn_7 rfl hl (by decide) rfl (fun ls hl => ?_)
  refine lv_iconst (v := 0) hx hb dX8_powerIn_8 (by decide) ?_
  refine lv_istore_n (lv' := [(3, .int 0), (2, .int x1), (0, .ref (ad 0)), (1, .int a0)]) hx hb dX8_powerIn_9 rfl hl (by decide) rfl (fun ls hl => ?_)
  have L6 : ∀ (d4 k2 : Nat), k2 ≤ a0.toNatClampNeg → a0.toNatClampNeg - k2 < d4 → ∀ M5 : zM, M5 = zit (bX8_powerIn_10) k2 M → ∀ i3 : Int32, i3 = nI k2 → ∀ ls : Array Slot, lv_has ls 4 [(0, .ref (ad 0)), (1, .int a0), (2, .int x1), (3, .int i3)] → ∀ (H : Heap) (locs : List Loc), zW dC dI ca ad M5 H → z_Fx M M5 → va_S (z_A zd ad) s.heap H locs → W p l e (headSpec wsX8_powerIn ({ frames := 4, cells := 0, slots := 0, locals := 97 })).room s m ([.ref (ad 0), .int a0] : List Value).toArray below meth c H locs 0 0 (MQ below (z_Qi (rX8_powerIn M a0) (fun H => zW dC dI ca ad (fX8_powerIn M a0) H ∧ z_Fx M (fX8_powerIn M a0)) (z_A zd ad)) ([.ref (ad 0), .int a0] : List Value).toArray s 0 0 (z_A zd ad)) (F0 m 10 ls []) := by
    intro d4
    induction d4 with
    | zero => intro k2 hk2 hd; exact absurd hd (by omega)
    | succ d4 ihk2 =>
      intro k2 hk2 hd M5 esk2 i3 ei3 ls hl H locs hH hFx hS
      have hOk : z_Ok M5 := hOk0.fx hFx
      refine lv_iload_n hx hb dX8_powerIn_10 rfl (lv_at hl 3 rfl) ?_
      refine lv_iload_n hx hb dX8_powerIn_11 rfl (lv_at hl 1 rfl) ?_
      refine lv_icmp_ge (tgt := 25) hx hb dX8_powerIn_12 (by decide) (fun c7 => ?_) (fun c7 => ?_)
      · have hkk2 : k2 = a0.toNatClampNeg := z_ge (z_ix.eq h_st) ei3 hk2 (Nat.lt_of_le_of_lt (Nat.le_of_lt_succ (z_ix.lt h_st)) (by decide)) c7
        have qM5 : M5 = (zit (bX8_powerIn_10) (a0.toNatClampNeg) M) := by rw [← hkk2, ← esk2]
        refine lv_aload_n hx hb dX8_powerIn_25 rfl (lv_at hl 0 rfl) ?_
        refine z_grN (D := (dC, dI)) (cl := vwCl) (C := RX3) (T := TX3) (N := 15) (ci := 3) (k := 5) hx hb hts hinX3 hown hK hH zk_0 (by decide) rfl (by decide) rfl (zr_0 (k := 5) (by decide)) (hN (.fieldLinkNest RX8 154 "Steamfield$Land" "plant" "LSteamfield$Plant;" "Steamfield") (by decide +kernel)) (fun _ h9 => h9) dX8_powerIn_26 ?_
        refine z_giN (D := (dC, dI)) (cl := vwCl) (C := RX4) (T := TX4) (N := 6) (ci := 4) (k := 3) hx hb hts hinX4 hown hK hH zk_6 (by decide) rfl (by decide) rfl (hN (.fieldLinkNest RX8 239 "Steamfield$Plant" "powerEver" "I" "Steamfield") (by decide +kernel)) (fun _ h9 => h9) dX8_powerIn_29 ?_
        refine lv_topi (fun x10 ex10 => ?_)
        refine lv_iload_n hx hb dX8_powerIn_32 rfl (lv_at hl 2 rfl) ?_
        refine lv_isub hx hb dX8_powerIn_33 ?_
        refine lv_topi (fun x11 ex11 => ?_)
        have hF0 : zW dC dI ca ad (fX8_powerIn M a0) H := by
          have e9 : M5 = (fX8_powerIn M a0) := by subst ex11; subst ex10; subst qM5; subst ex1; rfl
          rw [← e9]; exact hH
        have hFF : z_Fx M (fX8_powerIn M a0) := by
          have e9 : M5 = (fX8_powerIn M a0) := by subst ex11; subst ex10; subst qM5; subst ex1; rfl
          rw [← e9]; exact hFx
        have hR : x11 = rX8_powerIn M a0 := by subst ex11; subst ex10; subst qM5; subst ex1; rfl
        exact W.iret (v := x11) hx hb hr (fun t ht hW => ⟨⟨x11, (), rfl, hR, z_to (B := fun H => zW dC dI ca ad (fX8_powerIn M a0) H ∧ z_Fx M (fX8_powerIn M a0)) ht ⟨hF0, hFF⟩⟩, hS.F ht⟩) hS.2.2 dX8_powerIn_34
      · have hkk2 : k2 < a0.toNatClampNeg := z_lt (z_ix.eq h_st) ei3 hk2 (Nat.lt_of_le_of_lt (Nat.le_of_lt_succ (z_ix.lt h_st)) (by decide)) c7
        refine lv_aload_n hx hb dX8_powerIn_15 rfl (lv_at hl 0 rfl) ?_
        refine z_cVv (D := (dC, dI)) (cl := vwCl) (tys := zt ca) (nw := zw_nest) (C := RX3) (As := []) (rest := []) ⟨hx, hb, hml, hown, hts⟩ (m_X3_step l dC dI ca ad hI M5 hOk) (cwV 0 hts gX8_powerIn_X3_step rfl rfl rfl (by decide +kernel) ⟨Nat.le_of_ble_eq_true rfl, Nat.le_of_ble_eq_true rfl⟩) (z_recv (ci := 3) (i := 0) hK hH zk_0 (by decide) rfl) hH hK hN zw_nest_ok rfl hl.1 rfl (Nat.le_of_ble_eq_true rfl) dX8_powerIn_16 ⟨Nat.le_refl _, Nat.le_refl _⟩ hS (fun _ h => h) (fun H locs hB1 oq1 hz1 hS => ?_)
        obtain ⟨hH, hFc⟩ := hB1
        obtain ⟨M8, hM8⟩ : ∃ z : zM, z = fX3_step M5  := ⟨_, rfl⟩
        have hH : z_H (dC, dI) vwCl zf ca zd ad M8 H := by rw [hM8]; exact hH
        have hFx : z_Fx M M8 := hFx.tr (by rw [hM8]; exact hFc)
        have hOk : z_Ok M8 := hOk0.fx hFx
        obtain ⟨x9, ex9⟩ : ∃ z : Int32, z = i3 + 1 := ⟨_, rfl⟩
        refine lv_iinc (v := x9) (lv' := [(3, .int x9), (0, .ref (ad 0)), (1, .int a0), (2, .int x1)]) hx hb dX8_powerIn_19 hl (k := 3) rfl (by rw [ex9]; rfl) (by decide) rfl (fun ls hl => ?_)
        refine lv_goto (tgt := 10) hx hb dX8_powerIn_22 (by decide) ?_
        exact ihk2 (k2 + 1) hkk2 (by omega) M8 (by rw [zit_s, ← esk2]; subst ex9; subst hM8; subst ei3; rfl) x9 (z_nx ei3 ex9) ls (lv_sub hl [1, 2, 3, 0] rfl) _ _ hH hFx hS
  exact L6 (a0.toNatClampNeg + 1) 0 (Nat.zero_le _) (by omega) M (zit_0 _ _).symm _ rfl ls (lv_sub hl [2, 3, 1, 0] rfl) s.heap [] hH hFx hS

