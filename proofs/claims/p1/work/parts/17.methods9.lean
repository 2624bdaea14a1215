def bX3_copyFrom_2 (N : zM) (k1 : Nat) (st : zM) : zM :=
  let M4 : zM := st
  let i2 : Int32 := nI k1
  let M7 : zM := fX0_copyFrom M4 N k1 k1
  M7
def bX3_copyFrom_31 (N : zM) (k9 : Nat) (st : zM) : zM :=
  let M12 : zM := st
  let i10 : Int32 := nI k9
  let M15 : zM := fX2_copyFrom M12 N k9 k9
  M15
def bX3_copyFrom_60 (N : zM) (k17 : Nat) (st : zM) : zM :=
  let M20 : zM := st
  let i18 : Int32 := nI k17
  let M23 : zM := fX7_copyFrom M20 N k17 k17
  M23
def bX3_copyFrom_89 (N : zM) (k25 : Nat) (st : zM) : zM :=
  let M28 : zM := st
  let i26 : Int32 := nI k25
  let M31 : zM := fX5_copyFrom M28 N k25 k25
  M31
def fX3_copyFrom (M : zM) (N : zM)  : zM :=
  let M4 : zM := (zit (bX3_copyFrom_2 N) (8) M)
  let M12 : zM := (zit (bX3_copyFrom_31 N) (12) M4)
  let M20 : zM := (zit (bX3_copyFrom_60 N) (6) M12)
  let M28 : zM := (zit (bX3_copyFrom_89 N) (3) M20)
  let M33 : zM := fX6_copyFrom M28 N 5 5
  let M34 : zM := fX4_copyFrom M33 N 
  let M35 : zM := fX1_copyFrom M34 N 
  let M36 : zM := zrow M35 8 (va_cpy (N 8) (M35 8) 0 0 2)
  let M37 : zM := zrow M36 9 (va_cpy (N 9) (M36 9) 0 0 4)
  let x38 : Int32 := N 0 10
  let M39 : zM := zu M37 0 10 x38
  let x40 : Int32 := N 0 11
  let M41 : zM := zu M39 0 11 x40
  let x42 : Int32 := N 0 12
  let M43 : zM := zu M41 0 12 x42
  let x44 : Int32 := N 0 13
  let M45 : zM := zu M43 0 13 x44
  let x46 : Int32 := N 0 14
  let M47 : zM := zu M45 0 14 x46
  M47
set_option maxHeartbeats 4000000 in
set_option maxRecDepth 100000 in
theorem m_X3_copyFrom (l : Launch) (dC : Nat → ClassId) (dI : Nat → Nat → Nat) (ca : Nat → ClassId) (ad : Nat → Nat) (hI : z_I zd ad) (ad2 : Nat → Nat) (hI2 : z_I zd ad2) (hX : ∀ i j, zk i < 200 → zk j < 200 → ad i ≠ ad2 j) (M : zM) (N : zM) (h_okN : z_Ok N) (h_run : N 6 1 = 0 ∨ N 6 1 = 1) : Met l yX3_copyFrom wsX3_copyFrom ({ frames := 2, cells := 0, slots := 0, locals := 42 }) (z_Pc (dC, dI) vwCl (zt ca) zw_nest [.ref (ad 0), .ref (ad2 0)] (fun H => zW dC dI ca ad M H ∧ zW dC dI ca ad2 N H)) (z_Qv (fun H => zW dC dI ca ad (fX3_copyFrom M N ) H ∧ zW dC dI ca ad2 N H) (z_A zd ad)) 0 0 (z_A zd ad) := by
  refine Met.ofW (cc := cX3_copyFrom) (maxL := 3) (ret := none) (by decide) rfl ?_
  intro p e s m args below meth c s₁ B9 hml hv
  obtain ⟨rfl, ⟨hH, hG⟩, hK, hN⟩ := hv
  have hx := B9.exec
  have hb := B9.bytes
  have hr := B9.returns
  have hts := atoms_spec (ws := wsX3_copyFrom) B9.pre
  have hown : s.vm.findClass RX3 = some m.cls := findClass_of_methodNamed B9.named
  have hlocks := B9.notSynchronized
  have hS : va_S (z_A zd ad) s.heap s.heap [] := va_S.rf
  have hH : zW dC dI ca ad M s.heap := hH
  have hG : zW dC dI ca ad2 N s.heap := hG
  have hinX3 : ∀ w ∈ u_ws RX3 TX3 15, w ∈ wsX3_copyFrom := by decide +kernel
  have hl := lv_entry ([.ref (ad 0), .ref (ad2 0)]) (n := 3) (Nat.le_of_ble_eq_true rfl)
  rw [lg_entry_eq]
  generalize (lg_sl ([.ref (ad 0), .ref (ad2 0)]) ++ List.replicate (3 - (lg_sl ([.ref (ad 0), .ref (ad2 0)])).length) Slot.unset).toArray = ls at hl ⊢
  have hl : lv_has ls 3 [(0, .ref (ad 0)), (1, .ref (ad2 0))] := hl
  refine lv_iconst (v := 0) hx hb dX3_copyFrom_0 (by decide) ?_
  refine lv_istore_n (lv' := [(2, .int 0), (0, .ref (ad 0)), (1, .ref (ad2 0))]) hx hb dX3_copyFrom_1 rfl hl (by decide) rfl (fun ls hl => ?_)
  have L5 : ∀ (d3 k1 : Nat), k1 ≤ 8 → 8 - k1 < d3 → ∀ M4 : zM, M4 = zit (bX3_copyFrom_2 N) k1 M → ∀ i2 : Int32, i2 = nI k1 → ∀ ls : Array Slot, lv_has ls 3 [(0, .ref (ad 0)), (1, .ref (ad2 0)), (2, .int i2)] → ∀ (H : Heap) (locs : List Loc), zW dC dI ca ad M4 H → zW dC dI ca ad2 N H → va_S (z_A zd ad) s.heap H locs → W p l e (headSpec wsX3_copyFrom ({ frames := 2, cells := 0, slots := 0, locals := 42 })).room s m ([.ref (ad 0), .ref (ad2 0)] : List Value).toArray below meth c H locs 0 0 (MQ below (z_Qv (fun H => zW dC dI ca ad (fX3_copyFrom M N ) H ∧ zW dC dI ca ad2 N H) (z_A zd ad)) ([.ref (ad 0), .ref (ad2 0)] : List Value).toArray s 0 0 (z_A zd ad)) (F0 m 2 ls []) := by
    intro d3
    induction d3 with
    | zero => intro k1 hk1 hd; exact absurd hd (by omega)
    | succ d3 ihk1 =>
      intro k1 hk1 hd M4 esk1 i2 ei2 ls hl H locs hH hG hS
      refine lv_iload_n hx hb dX3_copyFrom_2 rfl (lv_at hl 2 rfl) ?_
      refine lv_bipush (v := 8) hx hb dX3_copyFrom_3 (by decide) ?_
      refine lv_icmp_ge (tgt := 29) hx hb dX3_copyFrom_5 (by decide) (fun c6 => ?_) (fun c6 => ?_)
      · have hkk1 : k1 = 8 := z_ge rfl ei2 hk1 (by decide) c6
        have qM4 : M4 = (zit (bX3_copyFrom_2 N) (8) M) := by rw [← hkk1, ← esk1]
        refine lv_iconst (v := 0) hx hb dX3_copyFrom_29 (by decide) ?_
        refine lv_istore_n (lv' := [(2, .int 0), (0, .ref (ad 0)), (1, .ref (ad2 0))]) hx hb dX3_copyFrom_30 rfl hl (by decide) rfl (fun ls hl => ?_)
        have L13 : ∀ (d11 k9 : Nat), k9 ≤ 12 → 12 - k9 < d11 → ∀ M12 : zM, M12 = zit (bX3_copyFrom_31 N) k9 M4 → ∀ i10 : Int32, i10 = nI k9 → ∀ ls : Array Slot, lv_has ls 3 [(0, .ref (ad 0)), (1, .ref (ad2 0)), (2, .int i10)] → ∀ (H : Heap) (locs : List Loc), zW dC dI ca ad M12 H → zW dC dI ca ad2 N H → va_S (z_A zd ad) s.heap H locs → W p l e (headSpec wsX3_copyFrom ({ frames := 2, cells := 0, slots := 0, locals := 42 })).room s m ([.ref (ad 0), .ref (ad2 0)] : List Value).toArray below meth c H locs 0 0 (MQ below (z_Qv (fun H => zW dC dI ca ad (fX3_copyFrom M N ) H ∧ zW dC dI ca ad2 N H) (z_A zd ad)) ([.ref (ad 0), .ref (ad2 0)] : List Value).toArray s 0 0 (z_A zd ad)) (F0 m 31 ls []) := by
          intro d11
          induction d11 with
          | zero => intro k9 hk9 hd; exact absurd hd (by omega)
          | succ d11 ihk9 =>
            intro k9 hk9 hd M12 esk9 i10 ei10 ls hl H locs hH hG hS
            refine lv_iload_n hx hb dX3_copyFrom_31 rfl (lv_at hl 2 rfl) ?_
            refine lv_bipush (v := 12) hx hb dX3_copyFrom_32 (by decide) ?_
            refine lv_icmp_ge (tgt := 58) hx hb dX3_copyFrom_34 (by decide) (fun c14 => ?_) (fun c14 => ?_)
            · have hkk9 : k9 = 12 := z_ge rfl ei10 hk9 (by decide) c14
              have qM12 : M12 = (zit (bX3_copyFrom_31 N) (12) M4) := by rw [← hkk9, ← esk9]
              refine lv_iconst (v := 0) hx hb dX3_copyFrom_58 (by decide) ?_
              refine lv_istore_n (lv' := [(2, .int 0), (0, .ref (ad 0)), (1, .ref (ad2 0))]) hx hb dX3_copyFrom_59 rfl hl (by decide) rfl (fun ls hl => ?_)
              have L21 : ∀ (d19 k17 : Nat), k17 ≤ 6 → 6 - k17 < d19 → ∀ M20 : zM, M20 = zit (bX3_copyFrom_60 N) k17 M12 → ∀ i18 : Int32, i18 = nI k17 → ∀ ls : Array Slot, lv_has ls 3 [(0, .ref (ad 0)), (1, .ref (ad2 0)), (2, .int i18)] → ∀ (H : Heap) (locs : List Loc), zW dC dI ca ad M20 H → zW dC dI ca ad2 N H → va_S (z_A zd ad) s.heap H locs → W p l e (headSpec wsX3_copyFrom ({ frames := 2, cells := 0, slots := 0, locals := 42 })).room s m ([.ref (ad 0), .ref (ad2 0)] : List Value).toArray below meth c H locs 0 0 (MQ below (z_Qv (fun H => zW dC dI ca ad (fX3_copyFrom M N ) H ∧ zW dC dI ca ad2 N H) (z_A zd ad)) ([.ref (ad 0), .ref (ad2 0)] : List Value).toArray s 0 0 (z_A zd ad)) (F0 m 60 ls []) := by
                intro d19
                induction d19 with
                | zero => intro k17 hk17 hd; exact absurd hd (by omega)
                | succ d19 ihk17 =>
                  intro k17 hk17 hd M20 esk17 i18 ei18 ls hl H locs hH hG hS
                  refine lv_iload_n hx hb dX3_copyFrom_60 rfl (lv_at hl 2 rfl) ?_
                  refine lv_bipush (v := 6) hx hb dX3_copyFrom_61 (by decide) ?_
                  refine lv_icmp_ge (tgt := 87) hx hb dX3_copyFrom_63 (by decide) (fun c22 => ?_) (fun c22 => ?_)
                  · have hkk17 : k17 = 6 := z_ge rfl ei18 hk17 (by decide) c22
                    have qM20 : M20 = (zit (bX3_copyFrom_60 N) (6) M12) := by rw [← hkk17, ← esk17]
                    refine lv_iconst (v := 0) hx hb dX3_copyFrom_87 (by decide) ?_
                    refine lv_istore_n (lv' := [(2, .int 0), (0, .ref (ad 0)), (1, .ref (ad2 0))]) hx hb dX3_copyFrom_88 rfl hl (by decide) rfl (fun ls hl => ?_)
                    have L29 : ∀ (d27 k25 : Nat), k25 ≤ 3 → 3 - k25 < d27 → ∀ M28 : zM, M28 = zit (bX3_copyFrom_89 N) k25 M20 → ∀ i26 : Int32, i26 = nI k25 → ∀ ls : Array Slot, lv_has ls 3 [(0, .ref (ad 0)), (1, .ref (ad2 0)), (2, .int i26)] → ∀ (H : Heap) (locs : List Loc), zW dC dI ca ad M28 H → zW dC dI ca ad2 N H → va_S (z_A zd ad) s.heap H locs → W p l e (headSpec wsX3_copyFrom ({ frames := 2, cells := 0, slots := 0, locals := 42 })).room s m ([.ref (ad 0), .ref (ad2 0)] : List Value).toArray below meth c H locs 0 0 (MQ below (z_Qv (fun H => zW dC dI ca ad (fX3_copyFrom M N ) H ∧ zW dC dI ca ad2 N H) (z_A zd ad)) ([.ref (ad 0), .ref (ad2 0)] : List Value).toArray s 0 0 (z_A zd ad)) (F0 m 89 ls []) := by
                      intro d27
                      induction d27 with
                      | zero => intro k25 hk25 hd; exact absurd hd (by omega)
                      | succ d27 ihk25 =>
                        intro k25 hk25 hd M28 esk25 i26 ei26 ls hl H locs hH hG hS
                        refine lv_iload_n hx hb dX3_copyFrom_89 rfl (lv_at hl 2 rfl) ?_
                        refine lv_iconst (v := 3) hx hb dX3_copyFrom_90 (by decide) ?_
                        refine lv_icmp_ge (tgt := 115) hx hb dX3_copyFrom_91 (by decide) (fun c30 => ?_) (fun c30 => ?_)
                        · have hkk25 : k25 = 3 := z_ge rfl ei26 hk25 (by decide) c30
                          have qM28 : M28 = (zit (bX3_copyFrom_89 N) (3) M20) := by rw [← hkk25, ← esk25]
                          refine lv_aload_n hx hb dX3_copyFrom_115 rfl (lv_at hl 0 rfl) ?_
                          refine z_gr (D := (dC, dI)) (cl := vwCl) (C := RX3) (T := TX3) (N := 15) (ci := 3) (k := 4) hx hb hts hinX3 hown hK hH zk_0 (by decide) rfl (by decide) rfl (zr_0 (k := 4) (by decide)) (hts (.fieldLink RX3 38 "Steamfield$Land" "pond" "LSteamfield$Water;") (by decide +kernel)) (fun _ h9 => h9) dX3_copyFrom_116 ?_
                          refine lv_aload_n hx hb dX3_copyFrom_119 rfl (lv_at hl 1 rfl) ?_
                          refine z_gr (D := (dC, dI)) (cl := vwCl) (C := RX3) (T := TX3) (N := 15) (ci := 3) (k := 4) hx hb hts hinX3 hown hK hG zk_0 (by decide) rfl (by decide) rfl (zr_0 (k := 4) (by decide)) (hts (.fieldLink RX3 38 "Steamfield$Land" "pond" "LSteamfield$Water;") (by decide +kernel)) (fun _ h9 => h9) dX3_copyFrom_120 ?_
                          refine z_cVv (D := (dC, dI)) (cl := vwCl) (tys := zt ca) (nw := zw_nest) (C := RX6) (As := [.ref (ad2 5)]) (rest := []) ⟨hx, hb, hml, hown, hts⟩ (m_X6_copyFrom l dC dI ca ad hI ad2 hI2 hX M28 N 5 zk_5 5 zk_5) (cwV 1 hts gX3_copyFrom_X6_copyFrom rfl rfl rfl (by decide +kernel) ⟨Nat.le_of_ble_eq_true rfl, Nat.le_of_ble_eq_true rfl⟩) (z_recv (ci := 6) (i := 5) hK hH zk_5 (by decide) rfl) ⟨hH, hG⟩ hK hN zw_nest_ok rfl hl.1 rfl (Nat.le_of_ble_eq_true rfl) dX3_copyFrom_123 ⟨Nat.le_refl _, Nat.le_refl _⟩ hS (fun _ h => h) (fun H locs hB1 oq1 hz1 hS => ?_)
                          obtain ⟨hH, hG⟩ := hB1
                          obtain ⟨M33, hM33⟩ : ∃ z : zM, z = fX6_copyFrom M28 N 5 5 := ⟨_, rfl⟩
                          have hH : z_H (dC, dI) vwCl zf ca zd ad M33 H := by rw [hM33]; exact hH
                          refine lv_aload_n hx hb dX3_copyFrom_126 rfl (lv_at hl 0 rfl) ?_
                          refine z_gr (D := (dC, dI)) (cl := vwCl) (C := RX3) (T := TX3) (N := 15) (ci := 3) (k := 5) hx hb hts hinX3 hown hK hH zk_0 (by decide) rfl (by decide) rfl (zr_0 (k := 5) (by decide)) (hts (.fieldLink RX3 45 "Steamfield$Land" "plant" "LSteamfield$Plant;") (by decide +kernel)) (fun _ h9 => h9) dX3_copyFrom_127 ?_
                          refine lv_aload_n hx hb dX3_copyFrom_130 rfl (lv_at hl 1 rfl) ?_
                          refine z_gr (D := (dC, dI)) (cl := vwCl) (C := RX3) (T := TX3) (N := 15) (ci := 3) (k := 5) hx hb hts hinX3 hown hK hG zk_0 (by decide) rfl (by decide) rfl (zr_0 (k := 5) (by decide)) (hts (.fieldLink RX3 45 "Steamfield$Land" "plant" "LSteamfield$Plant;") (by decide +kernel)) (fun _ h9 => h9) dX3_copyFrom_131 ?_
                          refine z_cVv (D := (dC, dI)) (cl := vwCl) (tys := zt ca) (nw := zw_nest) (C := RX4) (As := [.ref (ad2 6)]) (rest := []) ⟨hx, hb, hml, hown, hts⟩ (m_X4_copyFrom l dC dI ca ad hI ad2 hI2 hX M33 N h_run) (cwV 1 hts gX3_copyFrom_X4_copyFrom rfl rfl rfl (by decide +kernel) ⟨Nat.le_of_ble_eq_true rfl, Nat.le_of_ble_eq_true rfl⟩) (z_recv (ci := 4) (i := 6) hK hH zk_6 (by decide) rfl) ⟨hH, hG⟩ hK hN zw_nest_ok rfl hl.1 rfl (Nat.le_of_ble_eq_true rfl) dX3_copyFrom_134 ⟨Nat.le_refl _, Nat.le_refl _⟩ hS (fun _ h => h) (fun H locs hB1 oq1 hz1 hS => ?_)
                          obtain ⟨hH, hG⟩ := hB1
                          obtain ⟨M34, hM34⟩ : ∃ z : zM, z = fX4_copyFrom M33 N  := ⟨_, rfl⟩
                          have hH : z_H (dC, dI) vwCl zf ca zd ad M34 H := by rw [hM34]; exact hH
                          refine lv_aload_n hx hb dX3_copyFrom_137 rfl (lv_at hl 0 rfl) ?_
                          refine z_gr (D := (dC, dI)) (cl := vwCl) (C := RX3) (T := TX3) (N := 15) (ci := 3) (k := 6) hx hb hts hinX3 hown hK hH zk_0 (by decide) rfl (by decide) rfl (zr_0 (k := 6) (by decide)) (hts (.fieldLink RX3 52 "Steamfield$Land" "books" "LSteamfield$Books;") (by decide +kernel)) (fun _ h9 => h9) dX3_copyFrom_138 ?_
                          refine lv_aload_n hx hb dX3_copyFrom_141 rfl (lv_at hl 1 rfl) ?_
                          refine z_gr (D := (dC, dI)) (cl := vwCl) (C := RX3) (T := TX3) (N := 15) (ci := 3) (k := 6) hx hb hts hinX3 hown hK hG zk_0 (by decide) rfl (by decide) rfl (zr_0 (k := 6) (by decide)) (hts (.fieldLink RX3 52 "Steamfield$Land" "books" "LSteamfield$Books;") (by decide +kernel)) (fun _ h9 => h9) dX3_copyFrom_142 ?_
                          refine z_cVv (D := (dC, dI)) (cl := vwCl) (tys := zt ca) (nw := zw_nest) (C := RX1) (As := [.ref (ad2 7)]) (rest := []) ⟨hx, hb, hml, hown, hts⟩ (m_X1_copyFrom l dC dI ca ad hI ad2 hI2 hX M34 N ) (cwV 1 hts gX3_copyFrom_X1_copyFrom rfl rfl rfl (by decide +kernel) ⟨Nat.le_of_ble_eq_true rfl, Nat.le_of_ble_eq_true rfl⟩) (z_recv (ci := 1) (i := 7) hK hH zk_7 (by decide) rfl) ⟨hH, hG⟩ hK hN zw_nest_ok rfl hl.1 rfl (Nat.le_of_ble_eq_true rfl) dX3_copyFrom_145 ⟨Nat.le_refl _, Nat.le_refl _⟩ hS (fun _ h => h) (fun H locs hB1 oq1 hz1 hS => ?_)
                          obtain ⟨hH, hG⟩ := hB1
                          obtain ⟨M35, hM35⟩ : ∃ z : zM, z = fX1_copyFrom M34 N  := ⟨_, rfl⟩
                          have hH : z_H (dC, dI) vwCl zf ca zd ad M35 H := by rw [hM35]; exact hH
                          refine lv_aload_n hx hb dX3_copyFrom_148 rfl (lv_at hl 1 rfl) ?_
                          refine z_gr (D := (dC, dI)) (cl := vwCl) (C := RX3) (T := TX3) (N := 15) (ci := 3) (k := 7) hx hb hts hinX3 hown hK hG zk_0 (by decide) rfl (by decide) rfl (zr_0 (k := 7) (by decide)) (hts (.fieldLink RX3 56 "Steamfield$Land" "coins" "[I") (by decide +kernel)) (fun _ h9 => h9) dX3_copyFrom_149 ?_
                          refine lv_iconst (v := 0) hx hb dX3_copyFrom_152 (by decide) ?_
                          refine lv_aload_n hx hb dX3_copyFrom_153 rfl (lv_at hl 0 rfl) ?_
                          refine z_gr (D := (dC, dI)) (cl := vwCl) (C := RX3) (T := TX3) (N := 15) (ci := 3) (k := 7) hx hb hts hinX3 hown hK hH zk_0 (by decide) rfl (by decide) rfl (zr_0 (k := 7) (by decide)) (hts (.fieldLink RX3 56 "Steamfield$Land" "coins" "[I") (by decide +kernel)) (fun _ h9 => h9) dX3_copyFrom_154 ?_
                          refine lv_iconst (v := 0) hx hb dX3_copyFrom_157 (by decide) ?_
                          refine lv_iconst (v := 2) hx hb dX3_copyFrom_158 (by decide) ?_
                          refine z_cp (t0 := 0) (n := 2) (i := 8) (j := 8) hx hb (hml.trans hl.1.symm) hown (hts (.methodLink RX3 92 arraycopyName) (by decide +kernel)) (hts (.native arraycopyName) (by decide +kernel)) (hts (.static arraycopyName) (by decide +kernel)) (hts (.initialized "java/lang/System") (by decide +kernel)) hK hH hG hI hS (fun _ h => h) zk_8 zk_8 rfl (by decide) (by decide) (by decide) (Nat.le_of_ble_eq_true rfl) (Nat.le_of_ble_eq_true rfl) dX3_copyFrom_159 (fun H locs hH oq hS => ?_)
                          rw [show (2 : Int32).toNatClampNeg = 2 from by decide] at hH
                          have hG := zW_u hG oq hX (zk_lt zk_8 (by decide))
                          obtain ⟨M36, hM36⟩ : ∃ z : zM, z = zrow M35 8 (va_cpy (N 8) (M35 8) 0 0 2) := ⟨_, rfl⟩
                          rw [← hM36] at hH
                          refine lv_aload_n hx hb dX3_copyFrom_162 rfl (lv_at hl 1 rfl) ?_
                          refine z_gr (D := (dC, dI)) (cl := vwCl) (C := RX3) (T := TX3) (N := 15) (ci := 3) (k := 8) hx hb hts hinX3 hown hK hG zk_0 (by decide) rfl (by decide) rfl (zr_0 (k := 8) (by decide)) (hts (.fieldLink RX3 60 "Steamfield$Land" "shocks" "[I") (by decide +kernel)) (fun _ h9 => h9) dX3_copyFrom_163 ?_
                          refine lv_iconst (v := 0) hx hb dX3_copyFrom_166 (by decide) ?_
                          refine lv_aload_n hx hb dX3_copyFrom_167 rfl (lv_at hl 0 rfl) ?_
                          refine z_gr (D := (dC, dI)) (cl := vwCl) (C := RX3) (T := TX3) (N := 15) (ci := 3) (k := 8) hx hb hts hinX3 hown hK hH zk_0 (by decide) rfl (by decide) rfl (zr_0 (k := 8) (by decide)) (hts (.fieldLink RX3 60 "Steamfield$Land" "shocks" "[I") (by decide +kernel)) (fun _ h9 => h9) dX3_copyFrom_168 ?_
                          refine lv_iconst (v := 0) hx hb dX3_copyFrom_171 (by decide) ?_
                          refine lv_iconst (v := 4) hx hb dX3_copyFrom_172 (by decide) ?_
                          refine z_cp (t0 := 0) (n := 4) (i := 9) (j := 9) hx hb (hml.trans hl.1.symm) hown (hts (.methodLink RX3 92 arraycopyName) (by decide +kernel)) (hts (.native arraycopyName) (by decide +kernel)) (hts (.static arraycopyName) (by decide +kernel)) (hts (.initialized "java/lang/System") (by decide +kernel)) hK hH hG hI hS (fun _ h => h) zk_9 zk_9 rfl (by decide) (by decide) (by decide) (Nat.le_of_ble_eq_true rfl) (Nat.le_of_ble_eq_true rfl) dX3_copyFrom_173 (fun H locs hH oq hS => ?_)
                          rw [show (4 : Int32).toNatClampNeg = 4 from by decide] at hH
                          have hG := zW_u hG oq hX (zk_lt zk_9 (by decide))
                          obtain ⟨M37, hM37⟩ : ∃ z : zM, z = zrow M36 9 (va_cpy (N 9) (M36 9) 0 0 4) := ⟨_, rfl⟩
                          rw [← hM37] at hH
                          refine lv_aload_n hx hb dX3_copyFrom_176 rfl (lv_at hl 0 rfl) ?_
                          refine lv_aload_n hx hb dX3_copyFrom_177 rfl (lv_at hl 1 rfl) ?_
                          refine z_gi (D := (dC, dI)) (cl := vwCl) (C := RX3) (T := TX3) (N := 15) (ci := 3) (k := 10) hx hb hts hinX3 hown hK hG zk_0 (by decide) rfl (by decide) rfl (hts (.fieldLink RX3 98 "Steamfield$Land" "blockCount" "I") (by decide +kernel)) (fun _ h9 => h9) dX3_copyFrom_178 ?_
                          refine lv_topi (fun x38 ex38 => ?_)
                          refine zp_i (D := (dC, dI)) (cl := vwCl) (C := RX3) (T := TX3) (N := 15) (ci := 3) (k := 10) (ty := .int) hx hb hts hinX3 tyX3 tyX3_ok nmX3 hown hK hH hI hS (fun _ h => h) zk_0 (by decide) rfl (by decide) rfl (hts (.fieldLink RX3 98 "Steamfield$Land" "blockCount" "I") (by decide +kernel)) (fun _ h9 => h9) rfl (by decide +kernel) rfl rfl dX3_copyFrom_181 (fun H locs hH oq hS => ?_)
                          have hG := zW_u hG oq hX (zk_lt zk_0 (by decide))
                          obtain ⟨M39, hM39⟩ : ∃ z : zM, z = zu M37 0 10 x38 := ⟨_, rfl⟩
                          rw [← hM39] at hH
                          refine lv_aload_n hx hb dX3_copyFrom_184 rfl (lv_at hl 0 rfl) ?_
                          refine lv_aload_n hx hb dX3_copyFrom_185 rfl (lv_at hl 1 rfl) ?_
                          refine z_gi (D := (dC, dI)) (cl := vwCl) (C := RX3) (T := TX3) (N := 15) (ci := 3) (k := 11) hx hb hts hinX3 hown hK hG zk_0 (by decide) rfl (by decide) rfl (hts (.fieldLink RX3 102 "Steamfield$Land" "faceCount" "I") (by decide +kernel)) (fun _ h9 => h9) dX3_copyFrom_186 ?_
                          refine lv_topi (fun x40 ex40 => ?_)
                          refine zp_i (D := (dC, dI)) (cl := vwCl) (C := RX3) (T := TX3) (N := 15) (ci := 3) (k := 11) (ty := .int) hx hb hts hinX3 tyX3 tyX3_ok nmX3 hown hK hH hI hS (fun _ h => h) zk_0 (by decide) rfl (by decide) rfl (hts (.fieldLink RX3 102 "Steamfield$Land" "faceCount" "I") (by decide +kernel)) (fun _ h9 => h9) rfl (by decide +kernel) rfl rfl dX3_copyFrom_189 (fun H locs hH oq hS => ?_)
                          have hG := zW_u hG oq hX (zk_lt zk_0 (by decide))
                          obtain ⟨M41, hM41⟩ : ∃ z : zM, z = zu M39 0 11 x40 := ⟨_, rfl⟩
                          rw [← hM41] at hH
                          refine lv_aload_n hx hb dX3_copyFrom_192 rfl (lv_at hl 0 rfl) ?_
                          refine lv_aload_n hx hb dX3_copyFrom_193 rfl (lv_at hl 1 rfl) ?_
                          refine z_gi (D := (dC, dI)) (cl := vwCl) (C := RX3) (T := TX3) (N := 15) (ci := 3) (k := 12) hx hb hts hinX3 hown hK hG zk_0 (by decide) rfl (by decide) rfl (hts (.fieldLink RX3 105 "Steamfield$Land" "wellCount" "I") (by decide +kernel)) (fun _ h9 => h9) dX3_copyFrom_194 ?_
                          refine lv_topi (fun x42 ex42 => ?_)
                          refine zp_i (D := (dC, dI)) (cl := vwCl) (C := RX3) (T := TX3) (N := 15) (ci := 3) (k := 12) (ty := .int) hx hb hts hinX3 tyX3 tyX3_ok nmX3 hown hK hH hI hS (fun _ h => h) zk_0 (by decide) rfl (by decide) rfl (hts (.fieldLink RX3 105 "Steamfield$Land" "wellCount" "I") (by decide +kernel)) (fun _ h9 => h9) rfl (by decide +kernel) rfl rfl dX3_copyFrom_197 (fun H locs hH oq hS => ?_)
                          have hG := zW_u hG oq hX (zk_lt zk_0 (by decide))
                          obtain ⟨M43, hM43⟩ : ∃ z : zM, z = zu M41 0 12 x42 := ⟨_, rfl⟩
                          rw [← hM43] at hH
                          refine lv_aload_n hx hb dX3_copyFrom_200 rfl (lv_at hl 0 rfl) ?_
                          refine lv_aload_n hx hb dX3_copyFrom_201 rfl (lv_at hl 1 rfl) ?_
                          refine z_gi (D := (dC, dI)) (cl := vwCl) (C := RX3) (T := TX3) (N := 15) (ci := 3) (k := 13) hx hb hts hinX3 hown hK hG zk_0 (by decide) rfl (by decide) rfl (hts (.fieldLink RX3 108 "Steamfield$Land" "springCount" "I") (by decide +kernel)) (fun _ h9 => h9) dX3_copyFrom_202 ?_
                          refine lv_topi (fun x44 ex44 => ?_)
                          refine zp_i (D := (dC, dI)) (cl := vwCl) (C := RX3) (T := TX3) (N := 15) (ci := 3) (k := 13) (ty := .int) hx hb hts hinX3 tyX3 tyX3_ok nmX3 hown hK hH hI hS (fun _ h => h) zk_0 (by decide) rfl (by decide) rfl (hts (.fieldLink RX3 108 "Steamfield$Land" "springCount" "I") (by decide +kernel)) (fun _ h9 => h9) rfl (by decide +kernel) rfl rfl dX3_copyFrom_205 (fun H locs hH oq hS => ?_)
                          have hG := zW_u hG oq hX (zk_lt zk_0 (by decide))
                          obtain ⟨M45, hM45⟩ : ∃ z : zM, z = zu M43 0 13 x44 := ⟨_, rfl⟩
                          rw [← hM45] at hH
                          refine lv_aload_n hx hb dX3_copyFrom_208 rfl (lv_at hl 0 rfl) ?_
                          refine lv_aload_n hx hb dX3_copyFrom_209 rfl (lv_at hl 1 rfl) ?_
                          refine z_gi (D := (dC, dI)) (cl := vwCl) (C := RX3) (T := TX3) (N := 15) (ci := 3) (k := 14) hx hb hts hinX3 hown hK hG zk_0 (by decide) rfl (by decide) rfl (hts (.fieldLink RX3 111 "Steamfield$Land" "now" "I") (by decide +kernel)) (fun _ h9 => h9) dX3_copyFrom_210 ?_
                          refine lv_topi (fun x46 ex46 => ?_)
                          refine zp_i (D := (dC, dI)) (cl := vwCl) (C := RX3) (T := TX3) (N := 15) (ci := 3) (k := 14) (ty := .int) hx hb hts hinX3 tyX3 tyX3_ok nmX3 hown hK hH hI hS (fun _ h => h) zk_0 (by decide) rfl (by decide) rfl (hts (.fieldLink RX3 111 "Steamfield$Land" "now" "I") (by decide +kernel)) (fun _ h9 => h9) rfl (by decide +kernel) rfl rfl dX3_copyFrom_213 (fun H locs hH oq hS => ?_)
                          have hG := zW_u hG oq hX (zk_lt zk_0 (by decide))
                          obtain ⟨M47, hM47⟩ : ∃ z : zM, z = zu M45 0 14 x46 := ⟨_, rfl⟩
                          rw [← hM47] at hH
                          have hF0 : zW dC dI ca ad (fX3_copyFrom M N ) H := by
                            have e9 : M47 = (fX3_copyFrom M N ) := by subst hM47; subst ex46; subst hM45; subst ex44; subst hM43; subst ex42; subst hM41; subst ex40; subst hM39; subst ex38; subst hM37; subst hM36; subst hM35; subst hM34; subst hM33; subst qM28; subst qM20; subst qM12; subst qM4; rfl
                            rw [← e9]; exact hH
                          exact W.vret hx hb hr (fun t ht hW => ⟨⟨(), rfl, trivial, z_to (B := fun H => zW dC dI ca ad (fX3_copyFrom M N ) H ∧ zW dC dI ca ad2 N H) ht ⟨hF0, hG⟩⟩, hS.F ht⟩) hS.2.2 dX3_copyFrom_216
                        · have hkk25 : k25 < 3 := z_lt rfl ei26 hk25 (by decide) c30
                          refine lv_aload_n hx hb dX3_copyFrom_94 rfl (lv_at hl 0 rfl) ?_
                          refine z_gr (D := (dC, dI)) (cl := vwCl) (C := RX3) (T := TX3) (N := 15) (ci := 3) (k := 3) hx hb hts hinX3 hown hK hH zk_0 (by decide) rfl (by decide) rfl (zr_0 (k := 3) (by decide)) (hts (.fieldLink RX3 31 "Steamfield$Land" "springs" "[LSteamfield$Spring;") (by decide +kernel)) (fun _ h9 => h9) dX3_copyFrom_95 ?_
                          refine lv_iload_n hx hb dX3_copyFrom_98 rfl (lv_at hl 2 rfl) ?_
                          refine z_aq (t0 := 4) (D := (dC, dI)) (cl := vwCl) (tys := zt ca) hx hb hK hH zk_4 (by decide) (by decide) rfl (show vp_in i26 3 from (zx ei26 hkk25 (by decide))) (show zr 4 (i26 : Int32).toNatClampNeg = some (70 + k25) from by rw [zx_n ei26 (Nat.lt_trans hkk25 (by decide : 3 < 2 ^ 31))]; exact zr_4 hkk25) dX3_copyFrom_99 ?_
                          refine lv_aload_n hx hb dX3_copyFrom_100 rfl (lv_at hl 1 rfl) ?_
                          refine z_gr (D := (dC, dI)) (cl := vwCl) (C := RX3) (T := TX3) (N := 15) (ci := 3) (k := 3) hx hb hts hinX3 hown hK hG zk_0 (by decide) rfl (by decide) rfl (zr_0 (k := 3) (by decide)) (hts (.fieldLink RX3 31 "Steamfield$Land" "springs" "[LSteamfield$Spring;") (by decide +kernel)) (fun _ h9 => h9) dX3_copyFrom_101 ?_
                          refine lv_iload_n hx hb dX3_copyFrom_104 rfl (lv_at hl 2 rfl) ?_
                          refine z_aq (t0 := 4) (D := (dC, dI)) (cl := vwCl) (tys := zt ca) hx hb hK hG zk_4 (by decide) (by decide) rfl (show vp_in i26 3 from (zx ei26 hkk25 (by decide))) (show zr 4 (i26 : Int32).toNatClampNeg = some (70 + k25) from by rw [zx_n ei26 (Nat.lt_trans hkk25 (by decide : 3 < 2 ^ 31))]; exact zr_4 hkk25) dX3_copyFrom_105 ?_
                          refine z_cVv (D := (dC, dI)) (cl := vwCl) (tys := zt ca) (nw := zw_nest) (C := RX5) (As := [.ref (ad2 (70 + k25))]) (rest := []) ⟨hx, hb, hml, hown, hts⟩ (m_X5_copyFrom l dC dI ca ad hI ad2 hI2 hX M28 N k25 hkk25 k25 hkk25) (cwV 1 hts gX3_copyFrom_X5_copyFrom rfl rfl rfl (by decide +kernel) ⟨Nat.le_of_ble_eq_true rfl, Nat.le_of_ble_eq_true rfl⟩) (z_recv (ci := 5) (i := (70 + k25)) hK hH (zk_s hkk25) (by decide) rfl) ⟨hH, hG⟩ hK hN zw_nest_ok rfl hl.1 rfl (Nat.le_of_ble_eq_true rfl) dX3_copyFrom_106 ⟨Nat.le_refl _, Nat.le_refl _⟩ hS (fun _ h => h) (fun H locs hB1 oq1 hz1 hS => ?_)
                          obtain ⟨hH, hG⟩ := hB1
                          obtain ⟨M31, hM31⟩ : ∃ z : zM, z = fX5_copyFrom M28 N k25 k25 := ⟨_, rfl⟩
                          have hH : z_H (dC, dI) vwCl zf ca zd ad M31 H := by rw [hM31]; exact hH
                          obtain ⟨x32, ex32⟩ : ∃ z : Int32, z = i26 + 1 := ⟨_, rfl⟩
                          refine lv_iinc (v := x32) (lv' := [(2, .int x32), (0, .ref (ad 0)), (1, .ref (ad2 0))]) hx hb dX3_copyFrom_109 hl (k := 2) rfl (by rw [ex32]; rfl) (by decide) rfl (fun ls hl => ?_)
                          refine lv_goto (tgt := 89) hx hb dX3_copyFrom_112 (by decide) ?_
                          exact ihk25 (k25 + 1) hkk25 (by omega) M31 (by rw [zit_s, ← esk25]; subst ex32; subst hM31; subst ei26; rfl) x32 (z_nx ei26 ex32) ls (lv_sub hl [1, 2, 0] rfl) _ _ hH hG hS
                    exact L29 (3 + 1) 0 (Nat.zero_le _) (by omega) M20 (zit_0 _ _).symm _ rfl ls (lv_sub hl [1, 2, 0] rfl) H locs hH hG hS
                  · have hkk17 : k17 < 6 := z_lt rfl ei18 hk17 (by decide) c22
                    refine lv_aload_n hx hb dX3_copyFrom_66 rfl (lv_at hl 0 rfl) ?_
                    refine z_gr (D := (dC, dI)) (cl := vwCl) (C := RX3) (T := TX3) (N := 15) (ci := 3) (k := 2) hx hb hts hinX3 hown hK hH zk_0 (by decide) rfl (by decide) rfl (zr_0 (k := 2) (by decide)) (hts (.fieldLink RX3 25 "Steamfield$Land" "wells" "[LSteamfield$Well;") (by decide +kernel)) (fun _ h9 => h9) dX3_copyFrom_67 ?_
                    refine lv_iload_n hx hb dX3_copyFrom_70 rfl (lv_at hl 2 rfl) ?_
                    refine z_aq (t0 := 3) (D := (dC, dI)) (cl := vwCl) (tys := zt ca) hx hb hK hH zk_3 (by decide) (by decide) rfl (show vp_in i18 6 from (zx ei18 hkk17 (by decide))) (show zr 3 (i18 : Int32).toNatClampNeg = some (60 + k17) from by rw [zx_n ei18 (Nat.lt_trans hkk17 (by decide : 6 < 2 ^ 31))]; exact zr_3 hkk17) dX3_copyFrom_71 ?_
                    refine lv_aload_n hx hb dX3_copyFrom_72 rfl (lv_at hl 1 rfl) ?_
                    refine z_gr (D := (dC, dI)) (cl := vwCl) (C := RX3) (T := TX3) (N := 15) (ci := 3) (k := 2) hx hb hts hinX3 hown hK hG zk_0 (by decide) rfl (by decide) rfl (zr_0 (k := 2) (by decide)) (hts (.fieldLink RX3 25 "Steamfield$Land" "wells" "[LSteamfield$Well;") (by decide +kernel)) (fun _ h9 => h9) dX3_copyFrom_73 ?_
                    refine lv_iload_n hx hb dX3_copyFrom_76 rfl (lv_at hl 2 rfl) ?_
                    refine z_aq (t0 := 3) (D := (dC, dI)) (cl := vwCl) (tys := zt ca) hx hb hK hG zk_3 (by decide) (by decide) rfl (show vp_in i18 6 from (zx ei18 hkk17 (by decide))) (show zr 3 (i18 : Int32).toNatClampNeg = some (60 + k17) from by rw [zx_n ei18 (Nat.lt_trans hkk17 (by decide : 6 < 2 ^ 31))]; exact zr_3 hkk17) dX3_copyFrom_77 ?_
                    refine z_cVv (D := (dC, dI)) (cl := vwCl) (tys := zt ca) (nw := zw_nest) (C := RX7) (As := [.ref (ad2 (60 + k17))]) (rest := []) ⟨hx, hb, hml, hown, hts⟩ (m_X7_copyFrom l dC dI ca ad hI ad2 hI2 hX M20 N k17 hkk17 k17 hkk17 (z_Ok.inj h_okN hkk17)) (cwV 1 hts gX3_copyFrom_X7_copyFrom rfl rfl rfl (by decide +kernel) ⟨Nat.le_of_ble_eq_true rfl, Nat.le_of_ble_eq_true rfl⟩) (z_recv (ci := 7) (i := (60 + k17)) hK hH (zk_v hkk17) (by decide) rfl) ⟨hH, hG⟩ hK hN zw_nest_ok rfl hl.1 rfl (Nat.le_of_ble_eq_true rfl) dX3_copyFrom_78 ⟨Nat.le_refl _, Nat.le_refl _⟩ hS (fun _ h => h) (fun H locs hB1 oq1 hz1 hS => ?_)
                    obtain ⟨hH, hG⟩ := hB1
                    obtain ⟨M23, hM23⟩ : ∃ z : zM, z = fX7_copyFrom M20 N k17 k17 := ⟨_, rfl⟩
                    have hH : z_H (dC, dI) vwCl zf ca zd ad M23 H := by rw [hM23]; exact hH
                    obtain ⟨x24, ex24⟩ : ∃ z : Int32, z = i18 + 1 := ⟨_, rfl⟩
                    refine lv_iinc (v := x24) (lv' := [(2, .int x24), (0, .ref (ad 0)), (1, .ref (ad2 0))]) hx hb dX3_copyFrom_81 hl (k := 2) rfl (by rw [ex24]; rfl) (by decide) rfl (fun ls hl => ?_)
                    refine lv_goto (tgt := 60) hx hb dX3_copyFrom_84 (by decide) ?_
                    exact ihk17 (k17 + 1) hkk17 (by omega) M23 (by rw [zit_s, ← esk17]; subst ex24; subst hM23; subst ei18; rfl) x24 (z_nx ei18 ex24) ls (lv_sub hl [1, 2, 0] rfl) _ _ hH hG hS
              exact L21 (6 + 1) 0 (Nat.zero_le _) (by omega) M12 (zit_0 _ _).symm _ rfl ls (lv_sub hl [1, 2, 0] rfl) H locs hH hG hS
            · have hkk9 : k9 < 12 := z_lt rfl ei10 hk9 (by decide) c14
              refine lv_aload_n hx hb dX3_copyFrom_37 rfl (lv_at hl 0 rfl) ?_
              refine z_gr (D := (dC, dI)) (cl := vwCl) (C := RX3) (T := TX3) (N := 15) (ci := 3) (k := 1) hx hb hts hinX3 hown hK hH zk_0 (by decide) rfl (by decide) rfl (zr_0 (k := 1) (by decide)) (hts (.fieldLink RX3 19 "Steamfield$Land" "faces" "[LSteamfield$Face;") (by decide +kernel)) (fun _ h9 => h9) dX3_copyFrom_38 ?_
              refine lv_iload_n hx hb dX3_copyFrom_41 rfl (lv_at hl 2 rfl) ?_
              refine z_aq (t0 := 2) (D := (dC, dI)) (cl := vwCl) (tys := zt ca) hx hb hK hH zk_2 (by decide) (by decide) rfl (show vp_in i10 12 from (zx ei10 hkk9 (by decide))) (show zr 2 (i10 : Int32).toNatClampNeg = some (40 + k9) from by rw [zx_n ei10 (Nat.lt_trans hkk9 (by decide : 12 < 2 ^ 31))]; exact zr_2 hkk9) dX3_copyFrom_42 ?_
              refine lv_aload_n hx hb dX3_copyFrom_43 rfl (lv_at hl 1 rfl) ?_
              refine z_gr (D := (dC, dI)) (cl := vwCl) (C := RX3) (T := TX3) (N := 15) (ci := 3) (k := 1) hx hb hts hinX3 hown hK hG zk_0 (by decide) rfl (by decide) rfl (zr_0 (k := 1) (by decide)) (hts (.fieldLink RX3 19 "Steamfield$Land" "faces" "[LSteamfield$Face;") (by decide +kernel)) (fun _ h9 => h9) dX3_copyFrom_44 ?_
              refine lv_iload_n hx hb dX3_copyFrom_47 rfl (lv_at hl 2 rfl) ?_
              refine z_aq (t0 := 2) (D := (dC, dI)) (cl := vwCl) (tys := zt ca) hx hb hK hG zk_2 (by decide) (by decide) rfl (show vp_in i10 12 from (zx ei10 hkk9 (by decide))) (show zr 2 (i10 : Int32).toNatClampNeg = some (40 + k9) from by rw [zx_n ei10 (Nat.lt_trans hkk9 (by decide : 12 < 2 ^ 31))]; exact zr_2 hkk9) dX3_copyFrom_48 ?_
              refine z_cVv (D := (dC, dI)) (cl := vwCl) (tys := zt ca) (nw := zw_nest) (C := RX2) (As := [.ref (ad2 (40 + k9))]) (rest := []) ⟨hx, hb, hml, hown, hts⟩ (m_X2_copyFrom l dC dI ca ad hI ad2 hI2 hX M12 N k9 hkk9 k9 hkk9) (cwV 1 hts gX3_copyFrom_X2_copyFrom rfl rfl rfl (by decide +kernel) ⟨Nat.le_of_ble_eq_true rfl, Nat.le_of_ble_eq_true rfl⟩) (z_recv (ci := 2) (i := (40 + k9)) hK hH (zk_f hkk9) (by decide) rfl) ⟨hH, hG⟩ hK hN zw_nest_ok rfl hl.1 rfl (Nat.le_of_ble_eq_true rfl) dX3_copyFrom_49 ⟨Nat.le_refl _, Nat.le_refl _⟩ hS (fun _ h => h) (fun H locs hB1 oq1 hz1 hS => ?_)
              obtain ⟨hH, hG⟩ := hB1
              obtain ⟨M15, hM15⟩ : ∃ z : zM, z = fX2_copyFrom M12 N k9 k9 := ⟨_, rfl⟩
              have hH : z_H (dC, dI) vwCl zf ca zd ad M15 H := by rw [hM15]; exact hH
              obtain ⟨x16, ex16⟩ : ∃ z : Int32, z = i10 + 1 := ⟨_, rfl⟩
              refine lv_iinc (v := x16) (lv' := [(2, .int x16), (0, .ref (ad 0)), (1, .ref (ad2 0))]) hx hb dX3_copyFrom_52 hl (k := 2) rfl (by rw [ex16]; rfl) (by decide) rfl (fun ls hl => ?_)
              refine lv_goto (tgt := 31) hx hb dX3_copyFrom_55 (by decide) ?_
              exact ihk9 (k9 + 1) hkk9 (by omega) M15 (by rw [zit_s, ← esk9]; subst ex16; subst hM15; subst ei10; rfl) x16 (z_nx ei10 ex16) ls (lv_sub hl [1, 2, 0] rfl) _ _ hH hG hS
        exact L13 (12 + 1) 0 (Nat.zero_le _) (by omega) M4 (zit_0 _ _).symm _ rfl ls (lv_sub hl [1, 2, 0] rfl) H locs hH hG hS
      · have hkk1 : k1 < 8 := z_lt rfl ei2 hk1 (by decide) c6
        refine lv_aload_n hx hb dX3_copyFrom_8 rfl (lv_at hl 0 rfl) ?_
        refine z_gr (D := (dC, dI)) (cl := vwCl) (C := RX3) (T := TX3) (N := 15) (ci := 3) (k := 0) hx hb hts hinX3 hown hK hH zk_0 (by decide) rfl (by decide) rfl (zr_0 (k := 0) (by decide)) (hts (.fieldLink RX3 11 "Steamfield$Land" "blocks" "[LSteamfield$Block;") (by decide +kernel)) (fun _ h9 => h9) dX3_copyFrom_9 ?_
        refine lv_iload_n hx hb dX3_copyFrom_12 rfl (lv_at hl 2 rfl) ?_
        refine z_aq (t0 := 1) (D := (dC, dI)) (cl := vwCl) (tys := zt ca) hx hb hK hH zk_1 (by decide) (by decide) rfl (show vp_in i2 8 from (zx ei2 hkk1 (by decide))) (show zr 1 (i2 : Int32).toNatClampNeg = some (20 + k1) from by rw [zx_n ei2 (Nat.lt_trans hkk1 (by decide : 8 < 2 ^ 31))]; exact zr_1 hkk1) dX3_copyFrom_13 ?_
        refine lv_aload_n hx hb dX3_copyFrom_14 rfl (lv_at hl 1 rfl) ?_
        refine z_gr (D := (dC, dI)) (cl := vwCl) (C := RX3) (T := TX3) (N := 15) (ci := 3) (k := 0) hx hb hts hinX3 hown hK hG zk_0 (by decide) rfl (by decide) rfl (zr_0 (k := 0) (by decide)) (hts (.fieldLink RX3 11 "Steamfield$Land" "blocks" "[LSteamfield$Block;") (by decide +kernel)) (fun _ h9 => h9) dX3_copyFrom_15 ?_
        refine lv_iload_n hx hb dX3_copyFrom_18 rfl (lv_at hl 2 rfl) ?_
        refine z_aq (t0 := 1) (D := (dC, dI)) (cl := vwCl) (tys := zt ca) hx hb hK hG zk_1 (by decide) (by decide) rfl (show vp_in i2 8 from (zx ei2 hkk1 (by decide))) (show zr 1 (i2 : Int32).toNatClampNeg = some (20 + k1) from by rw [zx_n ei2 (Nat.lt_trans hkk1 (by decide : 8 < 2 ^ 31))]; exact zr_1 hkk1) dX3_copyFrom_19 ?_
        refine z_cVv (D := (dC, dI)) (cl := vwCl) (tys := zt ca) (nw := zw_nest) (C := RX0) (As := [.ref (ad2 (20 + k1))]) (rest := []) ⟨hx, hb, hml, hown, hts⟩ (m_X0_copyFrom l dC dI ca ad hI ad2 hI2 hX M4 N k1 hkk1 k1 hkk1) (cwV 1 hts gX3_copyFrom_X0_copyFrom rfl rfl rfl (by decide +kernel) ⟨Nat.le_of_ble_eq_true rfl, Nat.le_of_ble_eq_true rfl⟩) (z_recv (ci := 0) (i := (20 + k1)) hK hH (zk_b hkk1) (by decide) rfl) ⟨hH, hG⟩ hK hN zw_nest_ok rfl hl.1 rfl (Nat.le_of_ble_eq_true rfl) dX3_copyFrom_20 ⟨Nat.le_refl _, Nat.le_refl _⟩ hS (fun _ h => h) (fun H locs hB1 oq1 hz1 hS => ?_)
        obtain ⟨hH, hG⟩ := hB1
        obtain ⟨M7, hM7⟩ : ∃ z : zM, z = fX0_copyFrom M4 N k1 k1 := ⟨_, rfl⟩
        have hH : z_H (dC, dI) vwCl zf ca zd ad M7 H := by rw [hM7]; exact hH
        obtain ⟨x8, ex8⟩ : ∃ z : Int32, z = i2 + 1 := ⟨_, rfl⟩
        refine lv_iinc (v := x8) (lv' := [(2, .int x8), (0, .ref (ad 0)), (1, .ref (ad2 0))]) hx hb dX3_copyFrom_23 hl (k := 2) rfl (by rw [ex8]; rfl) (by decide) rfl (fun ls hl => ?_)
        refine lv_goto (tgt := 2) hx hb dX3_copyFrom_26 (by decide) ?_
        exact ihk1 (k1 + 1) hkk1 (by omega) M7 (by rw [zit_s, ← esk1]; subst ex8; subst hM7; subst ei2; rfl) x8 (z_nx ei2 ex8) ls (lv_sub hl [1, 2, 0] rfl) _ _ hH hG hS
  exact L5 (8 + 1) 0 (Nat.zero_le _) (by omega) M (zit_0 _ _).symm _ rfl ls (lv_sub hl [1, 2, 0] rfl) s.heap [] hH hG hS

