def rX6_shareOf (M : zM) (i : Nat) (a0 : Int32) (a1 : Int32) : Int32 :=
  let x1 : Int32 := M i 0
  let x3 : Int32 := if x1 ≤ 0 then 0 else (let y3 : Int64 := a1.toInt64; let y4 : Int64 := a0.toInt64; let y5 : Int64 := y3 * y4; let x6 : Int32 := M i 0; let y7 : Int64 := x6.toInt64; let y8 : Int64 := y5 / y7; let x9 : Int32 := y8.toInt32; x9)
  x3
set_option maxHeartbeats 4000000 in
set_option maxRecDepth 100000 in
theorem m_X6_shareOf (l : Launch) (dC : Nat → ClassId) (dI : Nat → Nat → Nat) (ca : Nat → ClassId) (ad : Nat → Nat) (hI : z_I zd ad) (M : zM) (i : Nat) (h_i : zk i = 6) (a0 : Int32) (a1 : Int32) : Met l yX6_shareOf wsX6_shareOf ({ frames := 0, cells := 0, slots := 0, locals := 0 }) (z_Pc (dC, dI) vwCl (zt ca) zw_nest [.ref (ad i), .int a0, .int a1] (fun H => zW dC dI ca ad M H)) (z_Qi (rX6_shareOf M i a0 a1) (fun H => zW dC dI ca ad M H) (z_A zd ad)) 0 0 (z_A zd ad) := by
  refine Met.ofW (cc := cX6_shareOf) (maxL := 3) (ret := (some .int)) (by decide) rfl ?_
  intro p e s m args below meth c s₁ B9 hml hv
  obtain ⟨rfl, hH, hK, hN⟩ := hv
  have hx := B9.exec
  have hb := B9.bytes
  have hr := B9.returns
  have hts := atoms_spec (ws := wsX6_shareOf) B9.pre
  have hown : s.vm.findClass RX6 = some m.cls := findClass_of_methodNamed B9.named
  have hlocks := B9.notSynchronized
  have hS : va_S (z_A zd ad) s.heap s.heap [] := va_S.rf
  have hH : zW dC dI ca ad M s.heap := hH
  have hinX6 : ∀ w ∈ u_ws RX6 TX6 4, w ∈ wsX6_shareOf := by decide +kernel
  have hl := lv_entry ([.ref (ad i), .int a0, .int a1]) (n := 3) (Nat.le_of_ble_eq_true rfl)
  rw [lg_entry_eq]
  generalize (lg_sl ([.ref (ad i), .int a0, .int a1]) ++ List.replicate (3 - (lg_sl ([.ref (ad i), .int a0, .int a1])).length) Slot.unset).toArray = ls at hl ⊢
  have hl : lv_has ls 3 [(0, .ref (ad i)), (1, .int a0), (2, .int a1)] := hl
  refine lv_aload_n hx hb dX6_shareOf_0 rfl (lv_at hl 0 rfl) ?_
  refine z_gi (D := (dC, dI)) (cl := vwCl) (C := RX6) (T := TX6) (N := 4) (ci := 6) (k := 0) hx hb hts hinX6 hown hK hH h_i (by decide) rfl (by decide) rfl (hts (.fieldLink RX6 7 "Steamfield$Water" "mass" "I") (by decide +kernel)) (fun _ h9 => h9) dX6_shareOf_1 ?_
  refine lv_topi (fun x1 ex1 => ?_)
  have J4 : ∀ x3 : Int32, x3 = (if x1 ≤ 0 then 0 else (let y3 : Int64 := a1.toInt64; let y4 : Int64 := a0.toInt64; let y5 : Int64 := y3 * y4; let x6 : Int32 := M i 0; let y7 : Int64 := x6.toInt64; let y8 : Int64 := y5 / y7; let x9 : Int32 := y8.toInt32; x9)) → ∀ ls : Array Slot, lv_has ls 3 [(0, .ref (ad i)), (1, .int a0), (2, .int a1)] → W p l e (headSpec wsX6_shareOf ({ frames := 0, cells := 0, slots := 0, locals := 0 })).room s m ([.ref (ad i), .int a0, .int a1] : List Value).toArray below meth c s.heap [] 0 0 (MQ below (z_Qi (rX6_shareOf M i a0 a1) (fun H => zW dC dI ca ad M H) (z_A zd ad)) ([.ref (ad i), .int a0, .int a1] : List Value).toArray s 0 0 (z_A zd ad)) (F0 m 23 ls [.int x3]) := by
    intro x3 ex3 ls hl
    have hR : x3 = rX6_shareOf M i a0 a1 := by subst ex3; subst ex1; rfl
    exact W.iret (v := x3) hx hb hr (fun t ht hW => ⟨⟨x3, (), rfl, hR, z_to (B := fun H => zW dC dI ca ad M H) ht hH⟩, hS.F ht⟩) hS.2.2 dX6_shareOf_23
  refine lv_if_le (tgt := 22) hx hb dX6_shareOf_4 (by decide) (fun c2 => ?_) (fun c2 => ?_)
  · refine lv_iconst (v := 0) hx hb dX6_shareOf_22 (by decide) ?_
    exact J4 _ (by exact (if_pos c2).symm) ls (lv_sub hl [0, 1, 2] rfl)
  · refine lv_iload_n hx hb dX6_shareOf_7 rfl (lv_at hl 2 rfl) ?_
    refine lv_i2l hx hb dX6_shareOf_8 rfl ?_
    refine lv_topl (fun y3 ey3 => ?_)
    refine lv_iload_n hx hb dX6_shareOf_9 rfl (lv_at hl 1 rfl) ?_
    refine lv_i2l hx hb dX6_shareOf_10 rfl ?_
    refine lv_topl (fun y4 ey4 => ?_)
    refine lv_lmul hx hb dX6_shareOf_11 ?_
    refine lv_topl (fun y5 ey5 => ?_)
    refine lv_aload_n hx hb dX6_shareOf_12 rfl (lv_at hl 0 rfl) ?_
    refine z_gi (D := (dC, dI)) (cl := vwCl) (C := RX6) (T := TX6) (N := 4) (ci := 6) (k := 0) hx hb hts hinX6 hown hK hH h_i (by decide) rfl (by decide) rfl (hts (.fieldLink RX6 7 "Steamfield$Water" "mass" "I") (by decide +kernel)) (fun _ h9 => h9) dX6_shareOf_13 ?_
    refine lv_topi (fun x6 ex6 => ?_)
    refine lv_i2l hx hb dX6_shareOf_16 rfl ?_
    refine lv_topl (fun y7 ey7 => ?_)
    refine lv_ldiv hx hb dX6_shareOf_17 (by rw [ey7, ex6, ← ex1]; exact z_nzl c2) ?_
    refine lv_topl (fun y8 ey8 => ?_)
    refine lv_l2i hx hb dX6_shareOf_18 rfl ?_
    refine lv_topi (fun x9 ex9 => ?_)
    refine lv_goto (tgt := 23) hx hb dX6_shareOf_19 (by decide) ?_
    exact J4 _ (by subst ex9; subst ey8; subst ey7; subst ex6; subst ey5; subst ey4; subst ey3; exact (if_neg c2).symm) ls (lv_sub hl [0, 1, 2] rfl)

def fX6_add (M : zM) (i : Nat) (j : Nat) : zM :=
  let x1 : Int32 := M i 0
  let x2 : Int32 := M j 0
  let x3 : Int32 := x1 + x2
  let M4 : zM := zu M i 0 x3
  let x5 : Int32 := M4 i 1
  let x6 : Int32 := M4 j 1
  let x7 : Int32 := x5 + x6
  let M8 : zM := zu M4 i 1 x7
  let x9 : Int32 := M8 i 2
  let x10 : Int32 := M8 j 2
  let x11 : Int32 := x9 + x10
  let M12 : zM := zu M8 i 2 x11
  let x13 : Int32 := M12 i 3
  let x14 : Int32 := M12 j 3
  let x15 : Int32 := x13 + x14
  let M16 : zM := zu M12 i 3 x15
  M16
theorem fx_X6_add (M : zM) (i : Nat) (h_i : zk i = 6) (j : Nat) (h_j : zk j = 6) : z_Fx M (fX6_add M i j) := by
  unfold fX6_add
  dsimp only
  repeat first | exact z_Fx.rf | refine z_Fx.u2 h_i rfl ?_ | refine z_Fx.it ?_ ?_
set_option maxHeartbeats 4000000 in
set_option maxRecDepth 100000 in
theorem m_X6_add (l : Launch) (dC : Nat → ClassId) (dI : Nat → Nat → Nat) (ca : Nat → ClassId) (ad : Nat → Nat) (hI : z_I zd ad) (M : zM) (i : Nat) (h_i : zk i = 6) (j : Nat) (h_j : zk j = 6) : Met l yX6_add wsX6_add ({ frames := 0, cells := 0, slots := 0, locals := 0 }) (z_Pc (dC, dI) vwCl (zt ca) zw_nest [.ref (ad i), .ref (ad j)] (fun H => zW dC dI ca ad M H)) (z_Qv (fun H => zW dC dI ca ad (fX6_add M i j) H) (z_A zd ad)) 0 0 (z_A zd ad) := by
  refine Met.ofW (cc := cX6_add) (maxL := 2) (ret := none) (by decide) rfl ?_
  intro p e s m args below meth c s₁ B9 hml hv
  obtain ⟨rfl, hH, hK, hN⟩ := hv
  have hx := B9.exec
  have hb := B9.bytes
  have hr := B9.returns
  have hts := atoms_spec (ws := wsX6_add) B9.pre
  have hown : s.vm.findClass RX6 = some m.cls := findClass_of_methodNamed B9.named
  have hlocks := B9.notSynchronized
  have hS : va_S (z_A zd ad) s.heap s.heap [] := va_S.rf
  have hH : zW dC dI ca ad M s.heap := hH
  have hinX6 : ∀ w ∈ u_ws RX6 TX6 4, w ∈ wsX6_add := by decide +kernel
  have hl := lv_entry ([.ref (ad i), .ref (ad j)]) (n := 2) (Nat.le_of_ble_eq_true rfl)
  rw [lg_entry_eq]
  generalize (lg_sl ([.ref (ad i), .ref (ad j)]) ++ List.replicate (2 - (lg_sl ([.ref (ad i), .ref (ad j)])).length) Slot.unset).toArray = ls at hl ⊢
  have hl : lv_has ls 2 [(0, .ref (ad i)), (1, .ref (ad j))] := hl
  refine lv_aload_n hx hb dX6_add_0 rfl (lv_at hl 0 rfl) ?_
  refine lv_dup hx hb dX6_add_1 rfl ?_
  refine z_gi (D := (dC, dI)) (cl := vwCl) (C := RX6) (T := TX6) (N := 4) (ci := 6) (k := 0) hx hb hts hinX6 hown hK hH h_i (by decide) rfl (by decide) rfl (hts (.fieldLink RX6 7 "Steamfield$Water" "mass" "I") (by decide +kernel)) (fun _ h9 => h9) dX6_add_2 ?_
  refine lv_topi (fun x1 ex1 => ?_)
  refine lv_aload_n hx hb dX6_add_5 rfl (lv_at hl 1 rfl) ?_
  refine z_gi (D := (dC, dI)) (cl := vwCl) (C := RX6) (T := TX6) (N := 4) (ci := 6) (k := 0) hx hb hts hinX6 hown hK hH h_j (by decide) rfl (by decide) rfl (hts (.fieldLink RX6 7 "Steamfield$Water" "mass" "I") (by decide +kernel)) (fun _ h9 => h9) dX6_add_6 ?_
  refine lv_topi (fun x2 ex2 => ?_)
  refine lv_iadd hx hb dX6_add_9 ?_
  refine lv_topi (fun x3 ex3 => ?_)
  refine zp_i (D := (dC, dI)) (cl := vwCl) (C := RX6) (T := TX6) (N := 4) (ci := 6) (k := 0) (ty := .int) hx hb hts hinX6 tyX6 tyX6_ok nmX6 hown hK hH hI hS (fun _ h => h) h_i (by decide) rfl (by decide) rfl (hts (.fieldLink RX6 7 "Steamfield$Water" "mass" "I") (by decide +kernel)) (fun _ h9 => h9) rfl (by decide +kernel) rfl rfl dX6_add_10 (fun H locs hH oq hS => ?_)
  obtain ⟨M4, hM4⟩ : ∃ z : zM, z = zu M i 0 x3 := ⟨_, rfl⟩
  rw [← hM4] at hH
  refine lv_aload_n hx hb dX6_add_13 rfl (lv_at hl 0 rfl) ?_
  refine lv_dup hx hb dX6_add_14 rfl ?_
  refine z_gi (D := (dC, dI)) (cl := vwCl) (C := RX6) (T := TX6) (N := 4) (ci := 6) (k := 1) hx hb hts hinX6 hown hK hH h_i (by decide) rfl (by decide) rfl (hts (.fieldLink RX6 13 "Steamfield$Water" "heat" "I") (by decide +kernel)) (fun _ h9 => h9) dX6_add_15 ?_
  refine lv_topi (fun x5 ex5 => ?_)
  refine lv_aload_n hx hb dX6_add_18 rfl (lv_at hl 1 rfl) ?_
  refine z_gi (D := (dC, dI)) (cl := vwCl) (C := RX6) (T := TX6) (N := 4) (ci := 6) (k := 1) hx hb hts hinX6 hown hK hH h_j (by decide) rfl (by decide) rfl (hts (.fieldLink RX6 13 "Steamfield$Water" "heat" "I") (by decide +kernel)) (fun _ h9 => h9) dX6_add_19 ?_
  refine lv_topi (fun x6 ex6 => ?_)
  refine lv_iadd hx hb dX6_add_22 ?_
  refine lv_topi (fun x7 ex7 => ?_)
  refine zp_i (D := (dC, dI)) (cl := vwCl) (C := RX6) (T := TX6) (N := 4) (ci := 6) (k := 1) (ty := .int) hx hb hts hinX6 tyX6 tyX6_ok nmX6 hown hK hH hI hS (fun _ h => h) h_i (by decide) rfl (by decide) rfl (hts (.fieldLink RX6 13 "Steamfield$Water" "heat" "I") (by decide +kernel)) (fun _ h9 => h9) rfl (by decide +kernel) rfl rfl dX6_add_23 (fun H locs hH oq hS => ?_)
  obtain ⟨M8, hM8⟩ : ∃ z : zM, z = zu M4 i 1 x7 := ⟨_, rfl⟩
  rw [← hM8] at hH
  refine lv_aload_n hx hb dX6_add_26 rfl (lv_at hl 0 rfl) ?_
  refine lv_dup hx hb dX6_add_27 rfl ?_
  refine z_gi (D := (dC, dI)) (cl := vwCl) (C := RX6) (T := TX6) (N := 4) (ci := 6) (k := 2) hx hb hts hinX6 hown hK hH h_i (by decide) rfl (by decide) rfl (hts (.fieldLink RX6 16 "Steamfield$Water" "salt" "I") (by decide +kernel)) (fun _ h9 => h9) dX6_add_28 ?_
  refine lv_topi (fun x9 ex9 => ?_)
  refine lv_aload_n hx hb dX6_add_31 rfl (lv_at hl 1 rfl) ?_
  refine z_gi (D := (dC, dI)) (cl := vwCl) (C := RX6) (T := TX6) (N := 4) (ci := 6) (k := 2) hx hb hts hinX6 hown hK hH h_j (by decide) rfl (by decide) rfl (hts (.fieldLink RX6 16 "Steamfield$Water" "salt" "I") (by decide +kernel)) (fun _ h9 => h9) dX6_add_32 ?_
  refine lv_topi (fun x10 ex10 => ?_)
  refine lv_iadd hx hb dX6_add_35 ?_
  refine lv_topi (fun x11 ex11 => ?_)
  refine zp_i (D := (dC, dI)) (cl := vwCl) (C := RX6) (T := TX6) (N := 4) (ci := 6) (k := 2) (ty := .int) hx hb hts hinX6 tyX6 tyX6_ok nmX6 hown hK hH hI hS (fun _ h => h) h_i (by decide) rfl (by decide) rfl (hts (.fieldLink RX6 16 "Steamfield$Water" "salt" "I") (by decide +kernel)) (fun _ h9 => h9) rfl (by decide +kernel) rfl rfl dX6_add_36 (fun H locs hH oq hS => ?_)
  obtain ⟨M12, hM12⟩ : ∃ z : zM, z = zu M8 i 2 x11 := ⟨_, rfl⟩
  rw [← hM12] at hH
  refine lv_aload_n hx hb dX6_add_39 rfl (lv_at hl 0 rfl) ?_
  refine lv_dup hx hb dX6_add_40 rfl ?_
  refine z_gi (D := (dC, dI)) (cl := vwCl) (C := RX6) (T := TX6) (N := 4) (ci := 6) (k := 3) hx hb hts hinX6 hown hK hH h_i (by decide) rfl (by decide) rfl (hts (.fieldLink RX6 19 "Steamfield$Water" "tracer" "I") (by decide +kernel)) (fun _ h9 => h9) dX6_add_41 ?_
  refine lv_topi (fun x13 ex13 => ?_)
  refine lv_aload_n hx hb dX6_add_44 rfl (lv_at hl 1 rfl) ?_
  refine z_gi (D := (dC, dI)) (cl := vwCl) (C := RX6) (T := TX6) (N := 4) (ci := 6) (k := 3) hx hb hts hinX6 hown hK hH h_j (by decide) rfl (by decide) rfl (hts (.fieldLink RX6 19 "Steamfield$Water" "tracer" "I") (by decide +kernel)) (fun _ h9 => h9) dX6_add_45 ?_
  refine lv_topi (fun x14 ex14 => ?_)
  refine lv_iadd hx hb dX6_add_48 ?_
  refine lv_topi (fun x15 ex15 => ?_)
  refine zp_i (D := (dC, dI)) (cl := vwCl) (C := RX6) (T := TX6) (N := 4) (ci := 6) (k := 3) (ty := .int) hx hb hts hinX6 tyX6 tyX6_ok nmX6 hown hK hH hI hS (fun _ h => h) h_i (by decide) rfl (by decide) rfl (hts (.fieldLink RX6 19 "Steamfield$Water" "tracer" "I") (by decide +kernel)) (fun _ h9 => h9) rfl (by decide +kernel) rfl rfl dX6_add_49 (fun H locs hH oq hS => ?_)
  obtain ⟨M16, hM16⟩ : ∃ z : zM, z = zu M12 i 3 x15 := ⟨_, rfl⟩
  rw [← hM16] at hH
  have hF0 : zW dC dI ca ad (fX6_add M i j) H := by
    have e9 : M16 = (fX6_add M i j) := by subst hM16; subst ex15; subst ex14; subst ex13; subst hM12; subst ex11; subst ex10; subst ex9; subst hM8; subst ex7; subst ex6; subst ex5; subst hM4; subst ex3; subst ex2; subst ex1; rfl
    rw [← e9]; exact hH
  exact W.vret hx hb hr (fun t ht hW => ⟨⟨(), rfl, trivial, z_to (B := fun H => zW dC dI ca ad (fX6_add M i j) H) ht hF0⟩, hS.F ht⟩) hS.2.2 dX6_add_52

def fX6_remove (M : zM) (i : Nat) (j : Nat) : zM :=
  let x1 : Int32 := M i 0
  let x2 : Int32 := M j 0
  let x3 : Int32 := x1 - x2
  let M4 : zM := zu M i 0 x3
  let x5 : Int32 := M4 i 1
  let x6 : Int32 := M4 j 1
  let x7 : Int32 := x5 - x6
  let M8 : zM := zu M4 i 1 x7
  let x9 : Int32 := M8 i 2
  let x10 : Int32 := M8 j 2
  let x11 : Int32 := x9 - x10
  let M12 : zM := zu M8 i 2 x11
  let x13 : Int32 := M12 i 3
  let x14 : Int32 := M12 j 3
  let x15 : Int32 := x13 - x14
  let M16 : zM := zu M12 i 3 x15
  M16
theorem fx_X6_remove (M : zM) (i : Nat) (h_i : zk i = 6) (j : Nat) (h_j : zk j = 6) : z_Fx M (fX6_remove M i j) := by
  unfold fX6_remove
  dsimp only
  repeat first | exact z_Fx.rf | refine z_Fx.u2 h_i rfl ?_ | refine z_Fx.it ?_ ?_
set_option maxHeartbeats 4000000 in
set_option maxRecDepth 100000 in
theorem m_X6_remove (l : Launch) (dC : Nat → ClassId) (dI : Nat → Nat → Nat) (ca : Nat → ClassId) (ad : Nat → Nat) (hI : z_I zd ad) (M : zM) (i : Nat) (h_i : zk i = 6) (j : Nat) (h_j : zk j = 6) : Met l yX6_remove wsX6_remove ({ frames := 0, cells := 0, slots := 0, locals := 0 }) (z_Pc (dC, dI) vwCl (zt ca) zw_nest [.ref (ad i), .ref (ad j)] (fun H => zW dC dI ca ad M H)) (z_Qv (fun H => zW dC dI ca ad (fX6_remove M i j) H) (z_A zd ad)) 0 0 (z_A zd ad) := by
  refine Met.ofW (cc := cX6_remove) (maxL := 2) (ret := none) (by decide) rfl ?_
  intro p e s m args below meth c s₁ B9 hml hv
  obtain ⟨rfl, hH, hK, hN⟩ := hv
  have hx := B9.exec
  have hb := B9.bytes
  have hr := B9.returns
  have hts := atoms_spec (ws := wsX6_remove) B9.pre
  have hown : s.vm.findClass RX6 = some m.cls := findClass_of_methodNamed B9.named
  have hlocks := B9.notSynchronized
  have hS : va_S (z_A zd ad) s.heap s.heap [] := va_S.rf
  have hH : zW dC dI ca ad M s.heap := hH
  have hinX6 : ∀ w ∈ u_ws RX6 TX6 4, w ∈ wsX6_remove := by decide +kernel
  have hl := lv_entry ([.ref (ad i), .ref (ad j)]) (n := 2) (Nat.le_of_ble_eq_true rfl)
  rw [lg_entry_eq]
  generalize (lg_sl ([.ref (ad i), .ref (ad j)]) ++ List.replicate (2 - (lg_sl ([.ref (ad i), .ref (ad j)])).length) Slot.unset).toArray = ls at hl ⊢
  have hl : lv_has ls 2 [(0, .ref (ad i)), (1, .ref (ad j))] := hl
  refine lv_aload_n hx hb dX6_remove_0 rfl (lv_at hl 0 rfl) ?_
  refine lv_dup hx hb dX6_remove_1 rfl ?_
  refine z_gi (D := (dC, dI)) (cl := vwCl) (C := RX6) (T := TX6) (N := 4) (ci := 6) (k := 0) hx hb hts hinX6 hown hK hH h_i (by decide) rfl (by decide) rfl (hts (.fieldLink RX6 7 "Steamfield$Water" "mass" "I") (by decide +kernel)) (fun _ h9 => h9) dX6_remove_2 ?_
  refine lv_topi (fun x1 ex1 => ?_)
  refine lv_aload_n hx hb dX6_remove_5 rfl (lv_at hl 1 rfl) ?_
  refine z_gi (D := (dC, dI)) (cl := vwCl) (C := RX6) (T := TX6) (N := 4) (ci := 6) (k := 0) hx hb hts hinX6 hown hK hH h_j (by decide) rfl (by decide) rfl (hts (.fieldLink RX6 7 "Steamfield$Water" "mass" "I") (by decide +kernel)) (fun _ h9 => h9) dX6_remove_6 ?_
  refine lv_topi (fun x2 ex2 => ?_)
  refine lv_isub hx hb dX6_remove_9 ?_
  refine lv_topi (fun x3 ex3 => ?_)
  refine zp_i (D := (dC, dI)) (cl := vwCl) (C := RX6) (T := TX6) (N := 4) (ci := 6) (k := 0) (ty := .int) hx hb hts hinX6 tyX6 tyX6_ok nmX6 hown hK hH hI hS (fun _ h => h) h_i (by decide) rfl (by decide) rfl (hts (.fieldLink RX6 7 "Steamfield$Water" "mass" "I") (by decide +kernel)) (fun _ h9 => h9) rfl (by decide +kernel) rfl rfl dX6_remove_10 (fun H locs hH oq hS => ?_)
  obtain ⟨M4, hM4⟩ : ∃ z : zM, z = zu M i 0 x3 := ⟨_, rfl⟩
  rw [← hM4] at hH
  refine lv_aload_n hx hb dX6_remove_13 rfl (lv_at hl 0 rfl) ?_
  refine lv_dup hx hb dX6_remove_14 rfl ?_
  refine z_gi (D := (dC, dI)) (cl := vwCl) (C := RX6) (T := TX6) (N := 4) (ci := 6) (k := 1) hx hb hts hinX6 hown hK hH h_i (by decide) rfl (by decide) rfl (hts (.fieldLink RX6 13 "Steamfield$Water" "heat" "I") (by decide +kernel)) (fun _ h9 => h9) dX6_remove_15 ?_
  refine lv_topi (fun x5 ex5 => ?_)
  refine lv_aload_n hx hb dX6_remove_18 rfl (lv_at hl 1 rfl) ?_
  refine z_gi (D := (dC, dI)) (cl := vwCl) (C := RX6) (T := TX6) (N := 4) (ci := 6) (k := 1) hx hb hts hinX6 hown hK hH h_j (by decide) rfl (by decide) rfl (hts (.fieldLink RX6 13 "Steamfield$Water" "heat" "I") (by decide +kernel)) (fun _ h9 => h9) dX6_remove_19 ?_
  refine lv_topi (fun x6 ex6 => ?_)
  refine lv_isub hx hb dX6_remove_22 ?_
  refine lv_topi (fun x7 ex7 => ?_)
  refine zp_i (D := (dC, dI)) (cl := vwCl) (C := RX6) (T := TX6) (N := 4) (ci := 6) (k := 1) (ty := .int) hx hb hts hinX6 tyX6 tyX6_ok nmX6 hown hK hH hI hS (fun _ h => h) h_i (by decide) rfl (by decide) rfl (hts (.fieldLink RX6 13 "Steamfield$Water" "heat" "I") (by decide +kernel)) (fun _ h9 => h9) rfl (by decide +kernel) rfl rfl dX6_remove_23 (fun H locs hH oq hS => ?_)
  obtain ⟨M8, hM8⟩ : ∃ z : zM, z = zu M4 i 1 x7 := ⟨_, rfl⟩
  rw [← hM8] at hH
  refine lv_aload_n hx hb dX6_remove_26 rfl (lv_at hl 0 rfl) ?_
  refine lv_dup hx hb dX6_remove_27 rfl ?_
  refine z_gi (D := (dC, dI)) (cl := vwCl) (C := RX6) (T := TX6) (N := 4) (ci := 6) (k := 2) hx hb hts hinX6 hown hK hH h_i (by decide) rfl (by decide) rfl (hts (.fieldLink RX6 16 "Steamfield$Water" "salt" "I") (by decide +kernel)) (fun _ h9 => h9) dX6_remove_28 ?_
  refine lv_topi (fun x9 ex9 => ?_)
  refine lv_aload_n hx hb dX6_remove_31 rfl (lv_at hl 1 rfl) ?_
  refine z_gi (D := (dC, dI)) (cl := vwCl) (C := RX6) (T := TX6) (N := 4) (ci := 6) (k := 2) hx hb hts hinX6 hown hK hH h_j (by decide) rfl (by decide) rfl (hts (.fieldLink RX6 16 "Steamfield$Water" "salt" "I") (by decide +kernel)) (fun _ h9 => h9) dX6_remove_32 ?_
  refine lv_topi (fun x10 ex10 => ?_)
  refine lv_isub hx hb dX6_remove_35 ?_
  refine lv_topi (fun x11 ex11 => ?_)
  refine zp_i (D := (dC, dI)) (cl := vwCl) (C := RX6) (T := TX6) (N := 4) (ci := 6) (k := 2) (ty := .int) hx hb hts hinX6 tyX6 tyX6_ok nmX6 hown hK hH hI hS (fun _ h => h) h_i (by decide) rfl (by decide) rfl (hts (.fieldLink RX6 16 "Steamfield$Water" "salt" "I") (by decide +kernel)) (fun _ h9 => h9) rfl (by decide +kernel) rfl rfl dX6_remove_36 (fun H locs hH oq hS => ?_)
  obtain ⟨M12, hM12⟩ : ∃ z : zM, z = zu M8 i 2 x11 := ⟨_, rfl⟩
  rw [← hM12] at hH
  refine lv_aload_n hx hb dX6_remove_39 rfl (lv_at hl 0 rfl) ?_
  refine lv_dup hx hb dX6_remove_40 rfl ?_
  refine z_gi (D := (dC, dI)) (cl := vwCl) (C := RX6) (T := TX6) (N := 4) (ci := 6) (k := 3) hx hb hts hinX6 hown hK hH h_i (by decide) rfl (by decide) rfl (hts (.fieldLink RX6 19 "Steamfield$Water" "tracer" "I") (by decide +kernel)) (fun _ h9 => h9) dX6_remove_41 ?_
  refine lv_topi (fun x13 ex13 => ?_)
  refine lv_aload_n hx hb dX6_remove_44 rfl (lv_at hl 1 rfl) ?_
  refine z_gi (D := (dC, dI)) (cl := vwCl) (C := RX6) (T := TX6) (N := 4) (ci := 6) (k := 3) hx hb hts hinX6 hown hK hH h_j (by decide) rfl (by decide) rfl (hts (.fieldLink RX6 19 "Steamfield$Water" "tracer" "I") (by decide +kernel)) (fun _ h9 => h9) dX6_remove_45 ?_
  refine lv_topi (fun x14 ex14 => ?_)
  refine lv_isub hx hb dX6_remove_48 ?_
  refine lv_topi (fun x15 ex15 => ?_)
  refine zp_i (D := (dC, dI)) (cl := vwCl) (C := RX6) (T := TX6) (N := 4) (ci := 6) (k := 3) (ty := .int) hx hb hts hinX6 tyX6 tyX6_ok nmX6 hown hK hH hI hS (fun _ h => h) h_i (by decide) rfl (by decide) rfl (hts (.fieldLink RX6 19 "Steamfield$Water" "tracer" "I") (by decide +kernel)) (fun _ h9 => h9) rfl (by decide +kernel) rfl rfl dX6_remove_49 (fun H locs hH oq hS => ?_)
  obtain ⟨M16, hM16⟩ : ∃ z : zM, z = zu M12 i 3 x15 := ⟨_, rfl⟩
  rw [← hM16] at hH
  have hF0 : zW dC dI ca ad (fX6_remove M i j) H := by
    have e9 : M16 = (fX6_remove M i j) := by subst hM16; subst ex15; subst ex14; subst ex13; subst hM12; subst ex11; subst ex10; subst ex9; subst hM8; subst ex7; subst ex6; subst ex5; subst hM4; subst ex3; subst ex2; subst ex1; rfl
    rw [← e9]; exact hH
  exact W.vret hx hb hr (fun t ht hW => ⟨⟨(), rfl, trivial, z_to (B := fun H => zW dC dI ca ad (fX6_remove M i j) H) ht hF0⟩, hS.F ht⟩) hS.2.2 dX6_remove_52

def rX0_pressure (M : zM) (b : Nat) : Int32 :=
  let x1 : Int32 := M (20 + b) 1
  let x3 : Int32 := if x1 ≤ 0 then 0 else (let x3 : Int32 := M (30 + b) 0; let x4 : Int32 := 10 * x3; let x5 : Int32 := M (20 + b) 1; let x6 : Int32 := x4 / x5; x6)
  x3
set_option maxHeartbeats 4000000 in
set_option maxRecDepth 100000 in
theorem m_X0_pressure (l : Launch) (dC : Nat → ClassId) (dI : Nat → Nat → Nat) (ca : Nat → ClassId) (ad : Nat → Nat) (hI : z_I zd ad) (M : zM) (b : Nat) (h_b : b < 8) : Met l yX0_pressure wsX0_pressure ({ frames := 0, cells := 0, slots := 0, locals := 0 }) (z_Pc (dC, dI) vwCl (zt ca) zw_nest [.ref (ad (20 + b))] (fun H => zW dC dI ca ad M H)) (z_Qi (rX0_pressure M b) (fun H => zW dC dI ca ad M H) (z_A zd ad)) 0 0 (z_A zd ad) := by
  refine Met.ofW (cc := cX0_pressure) (maxL := 1) (ret := (some .int)) (by decide) rfl ?_
  intro p e s m args below meth c s₁ B9 hml hv
  obtain ⟨rfl, hH, hK, hN⟩ := hv
  have hx := B9.exec
  have hb := B9.bytes
  have hr := B9.returns
  have hts := atoms_spec (ws := wsX0_pressure) B9.pre
  have hown : s.vm.findClass RX0 = some m.cls := findClass_of_methodNamed B9.named
  have hlocks := B9.notSynchronized
  have hS : va_S (z_A zd ad) s.heap s.heap [] := va_S.rf
  have hH : zW dC dI ca ad M s.heap := hH
  have hinX0 : ∀ w ∈ u_ws RX0 TX0 3, w ∈ wsX0_pressure := by decide +kernel
  have hinX6 : ∀ w ∈ u_ws RX6 TX6 4, w ∈ wsX0_pressure := by decide +kernel
  have hl := lv_entry ([.ref (ad (20 + b))]) (n := 1) (Nat.le_of_ble_eq_true rfl)
  rw [lg_entry_eq]
  generalize (lg_sl ([.ref (ad (20 + b))]) ++ List.replicate (1 - (lg_sl ([.ref (ad (20 + b))])).length) Slot.unset).toArray = ls at hl ⊢
  have hl : lv_has ls 1 [(0, .ref (ad (20 + b)))] := hl
  refine lv_aload_n hx hb dX0_pressure_0 rfl (lv_at hl 0 rfl) ?_
  refine z_gi (D := (dC, dI)) (cl := vwCl) (C := RX0) (T := TX0) (N := 3) (ci := 0) (k := 1) hx hb hts hinX0 hown hK hH (zk_b h_b) (by decide) rfl (by decide) rfl (hts (.fieldLink RX0 20 "Steamfield$Block" "volume" "I") (by decide +kernel)) (fun _ h9 => h9) dX0_pressure_1 ?_
  refine lv_topi (fun x1 ex1 => ?_)
  have J4 : ∀ x3 : Int32, x3 = (if x1 ≤ 0 then 0 else (let x3 : Int32 := M (30 + b) 0; let x4 : Int32 := 10 * x3; let x5 : Int32 := M (20 + b) 1; let x6 : Int32 := x4 / x5; x6)) → ∀ ls : Array Slot, lv_has ls 1 [(0, .ref (ad (20 + b)))] → W p l e (headSpec wsX0_pressure ({ frames := 0, cells := 0, slots := 0, locals := 0 })).room s m ([.ref (ad (20 + b))] : List Value).toArray below meth c s.heap [] 0 0 (MQ below (z_Qi (rX0_pressure M b) (fun H => zW dC dI ca ad M H) (z_A zd ad)) ([.ref (ad (20 + b))] : List Value).toArray s 0 0 (z_A zd ad)) (F0 m 26 ls [.int x3]) := by
    intro x3 ex3 ls hl
    have hR : x3 = rX0_pressure M b := by subst ex3; subst ex1; rfl
    exact W.iret (v := x3) hx hb hr (fun t ht hW => ⟨⟨x3, (), rfl, hR, z_to (B := fun H => zW dC dI ca ad M H) ht hH⟩, hS.F ht⟩) hS.2.2 dX0_pressure_26
  refine lv_if_le (tgt := 25) hx hb dX0_pressure_4 (by decide) (fun c2 => ?_) (fun c2 => ?_)
  · refine lv_iconst (v := 0) hx hb dX0_pressure_25 (by decide) ?_
    exact J4 _ (by exact (if_pos c2).symm) ls (lv_sub hl [0] rfl)
  · refine lv_bipush (v := 10) hx hb dX0_pressure_7 (by decide) ?_
    refine lv_aload_n hx hb dX0_pressure_9 rfl (lv_at hl 0 rfl) ?_
    refine z_gr (D := (dC, dI)) (cl := vwCl) (C := RX0) (T := TX0) (N := 3) (ci := 0) (k := 0) hx hb hts hinX0 hown hK hH (zk_b h_b) (by decide) rfl (by decide) rfl (zr_b h_b) (hts (.fieldLink RX0 10 "Steamfield$Block" "water" "LSteamfield$Water;") (by decide +kernel)) (fun _ h9 => h9) dX0_pressure_10 ?_
    refine z_giN (D := (dC, dI)) (cl := vwCl) (C := RX6) (T := TX6) (N := 4) (ci := 6) (k := 0) hx hb hts hinX6 hown hK hH (zk_w h_b) (by decide) rfl (by decide) rfl (hN (.fieldLinkNest RX0 27 "Steamfield$Water" "mass" "I" "Steamfield") (by decide +kernel)) (fun _ h9 => h9) dX0_pressure_13 ?_
    refine lv_topi (fun x3 ex3 => ?_)
    refine lv_imul hx hb dX0_pressure_16 ?_
    refine lv_topi (fun x4 ex4 => ?_)
    refine lv_aload_n hx hb dX0_pressure_17 rfl (lv_at hl 0 rfl) ?_
    refine z_gi (D := (dC, dI)) (cl := vwCl) (C := RX0) (T := TX0) (N := 3) (ci := 0) (k := 1) hx hb hts hinX0 hown hK hH (zk_b h_b) (by decide) rfl (by decide) rfl (hts (.fieldLink RX0 20 "Steamfield$Block" "volume" "I") (by decide +kernel)) (fun _ h9 => h9) dX0_pressure_18 ?_
    refine lv_topi (fun x5 ex5 => ?_)
    refine lv_idiv hx hb dX0_pressure_21 (by rw [ex5, ← ex1]; exact z_nz c2) ?_
    refine lv_topi (fun x6 ex6 => ?_)
    refine lv_goto (tgt := 26) hx hb dX0_pressure_22 (by decide) ?_
    exact J4 _ (by subst ex6; subst ex5; subst ex4; subst ex3; exact (if_neg c2).symm) ls (lv_sub hl [0] rfl)

def rX0_warmth (M : zM) (b : Nat) : Int32 :=
  let x1 : Int32 := M (20 + b) 1
  let x2 : Int32 := M (30 + b) 0
  let x3 : Int32 := x1 + x2
  let x5 : Int32 := if x3 ≤ 0 then 0 else (let x5 : Int32 := M (30 + b) 1; let x6 : Int32 := x5 / x3; x6)
  x5
set_option maxHeartbeats 4000000 in
set_option maxRecDepth 100000 in
theorem m_X0_warmth (l : Launch) (dC : Nat → ClassId) (dI : Nat → Nat → Nat) (ca : Nat → ClassId) (ad : Nat → Nat) (hI : z_I zd ad) (M : zM) (b : Nat) (h_b : b < 8) : Met l yX0_warmth wsX0_warmth ({ frames := 0, cells := 0, slots := 0, locals := 0 }) (z_Pc (dC, dI) vwCl (zt ca) zw_nest [.ref (ad (20 + b))] (fun H => zW dC dI ca ad M H)) (z_Qi (rX0_warmth M b) (fun H => zW dC dI ca ad M H) (z_A zd ad)) 0 0 (z_A zd ad) := by
  refine Met.ofW (cc := cX0_warmth) (maxL := 2) (ret := (some .int)) (by decide) rfl ?_
  intro p e s m args below meth c s₁ B9 hml hv
  obtain ⟨rfl, hH, hK, hN⟩ := hv
  have hx := B9.exec
  have hb := B9.bytes
  have hr := B9.returns
  have hts := atoms_spec (ws := wsX0_warmth) B9.pre
  have hown : s.vm.findClass RX0 = some m.cls := findClass_of_methodNamed B9.named
  have hlocks := B9.notSynchronized
  have hS : va_S (z_A zd ad) s.heap s.heap [] := va_S.rf
  have hH : zW dC dI ca ad M s.heap := hH
  have hinX0 : ∀ w ∈ u_ws RX0 TX0 3, w ∈ wsX0_warmth := by decide +kernel
  have hinX6 : ∀ w ∈ u_ws RX6 TX6 4, w ∈ wsX0_warmth := by decide +kernel
  have hl := lv_entry ([.ref (ad (20 + b))]) (n := 2) (Nat.le_of_ble_eq_true rfl)
  rw [lg_entry_eq]
  generalize (lg_sl ([.ref (ad (20 + b))]) ++ List.replicate (2 - (lg_sl ([.ref (ad (20 + b))])).length) Slot.unset).toArray = ls at hl ⊢
  have hl : lv_has ls 2 [(0, .ref (ad (20 + b)))] := hl
  refine lv_aload_n hx hb dX0_warmth_0 rfl (lv_at hl 0 rfl) ?_
  refine z_gi (D := (dC, dI)) (cl := vwCl) (C := RX0) (T := TX0) (N := 3) (ci := 0) (k := 1) hx hb hts hinX0 hown hK hH (zk_b h_b) (by decide) rfl (by decide) rfl (hts (.fieldLink RX0 20 "Steamfield$Block" "volume" "I") (by decide +kernel)) (fun _ h9 => h9) dX0_warmth_1 ?_
  refine lv_topi (fun x1 ex1 => ?_)
  refine lv_aload_n hx hb dX0_warmth_4 rfl (lv_at hl 0 rfl) ?_
  refine z_gr (D := (dC, dI)) (cl := vwCl) (C := RX0) (T := TX0) (N := 3) (ci := 0) (k := 0) hx hb hts hinX0 hown hK hH (zk_b h_b) (by decide) rfl (by decide) rfl (zr_b h_b) (hts (.fieldLink RX0 10 "Steamfield$Block" "water" "LSteamfield$Water;") (by decide +kernel)) (fun _ h9 => h9) dX0_warmth_5 ?_
  refine z_giN (D := (dC, dI)) (cl := vwCl) (C := RX6) (T := TX6) (N := 4) (ci := 6) (k := 0) hx hb hts hinX6 hown hK hH (zk_w h_b) (by decide) rfl (by decide) rfl (hN (.fieldLinkNest RX0 27 "Steamfield$Water" "mass" "I" "Steamfield") (by decide +kernel)) (fun _ h9 => h9) dX0_warmth_8 ?_
  refine lv_topi (fun x2 ex2 => ?_)
  refine lv_iadd hx hb dX0_warmth_11 ?_
  refine lv_topi (fun x3 ex3 => ?_)
  refine lv_istore_n (lv' := [(1, .int x3), (0, .ref (ad (20 + b)))]) hx hb dX0_warmth_12 rfl hl (by decide) rfl (fun ls hl => ?_)
  refine lv_iload_n hx hb dX0_warmth_13 rfl (lv_at hl 0 rfl) ?_
  have J6 : ∀ x5 : Int32, x5 = (if x3 ≤ 0 then 0 else (let x5 : Int32 := M (30 + b) 1; let x6 : Int32 := x5 / x3; x6)) → ∀ ls : Array Slot, lv_has ls 2 [(0, .ref (ad (20 + b))), (1, .int x3)] → W p l e (headSpec wsX0_warmth ({ frames := 0, cells := 0, slots := 0, locals := 0 })).room s m ([.ref (ad (20 + b))] : List Value).toArray below meth c s.heap [] 0 0 (MQ below (z_Qi (rX0_warmth M b) (fun H => zW dC dI ca ad M H) (z_A zd ad)) ([.ref (ad (20 + b))] : List Value).toArray s 0 0 (z_A zd ad)) (F0 m 30 ls [.int x5]) := by
    intro x5 ex5 ls hl
    have hR : x5 = rX0_warmth M b := by subst ex5; subst ex3; subst ex2; subst ex1; rfl
    exact W.iret (v := x5) hx hb hr (fun t ht hW => ⟨⟨x5, (), rfl, hR, z_to (B := fun H => zW dC dI ca ad M H) ht hH⟩, hS.F ht⟩) hS.2.2 dX0_warmth_30
  refine lv_if_le (tgt := 29) hx hb dX0_warmth_14 (by decide) (fun c4 => ?_) (fun c4 => ?_)
  · refine lv_iconst (v := 0) hx hb dX0_warmth_29 (by decide) ?_
    exact J6 _ (by exact (if_pos c4).symm) ls (lv_sub hl [1, 0] rfl)
  · refine lv_aload_n hx hb dX0_warmth_17 rfl (lv_at hl 1 rfl) ?_
    refine z_gr (D := (dC, dI)) (cl := vwCl) (C := RX0) (T := TX0) (N := 3) (ci := 0) (k := 0) hx hb hts hinX0 hown hK hH (zk_b h_b) (by decide) rfl (by decide) rfl (zr_b h_b) (hts (.fieldLink RX0 10 "Steamfield$Block" "water" "LSteamfield$Water;") (by decide +kernel)) (fun _ h9 => h9) dX0_warmth_18 ?_
    refine z_giN (D := (dC, dI)) (cl := vwCl) (C := RX6) (T := TX6) (N := 4) (ci := 6) (k := 1) hx hb hts hinX6 hown hK hH (zk_w h_b) (by decide) rfl (by decide) rfl (hN (.fieldLinkNest RX0 30 "Steamfield$Water" "heat" "I" "Steamfield") (by decide +kernel)) (fun _ h9 => h9) dX0_warmth_21 ?_
    refine lv_topi (fun x5 ex5 => ?_)
    refine lv_iload_n hx hb dX0_warmth_24 rfl (lv_at hl 0 rfl) ?_
    refine lv_idiv hx hb dX0_warmth_25 (z_nz c4) ?_
    refine lv_topi (fun x6 ex6 => ?_)
    refine lv_goto (tgt := 30) hx hb dX0_warmth_26 (by decide) ?_
    exact J6 _ (by subst ex6; subst ex5; exact (if_neg c4).symm) ls (lv_sub hl [1, 0] rfl)

def fX0_take (M : zM) (b : Nat) (a0 : Int32) (j : Nat) : zM :=
  let x1 : Int32 := M (30 + b) 0
  let x2 : Int32 := x1 / 4
  let x3 : Int32 := if x2 < a0 then x2 else a0
  let M4 : zM := zu M j 0 x3
  let x5 : Int32 := rX0_warmth M4 b
  let x6 : Int32 := x3 * x5
  let M7 : zM := zu M4 j 1 x6
  let x8 : Int32 := M7 (30 + b) 2
  let x9 : Int32 := rX6_shareOf M7 (30 + b) x8 x3
  let M10 : zM := zu M7 j 2 x9
  let x11 : Int32 := M10 (30 + b) 3
  let x12 : Int32 := rX6_shareOf M10 (30 + b) x11 x3
  let M13 : zM := zu M10 j 3 x12
  let M14 : zM := fX6_remove M13 (30 + b) j
  M14
theorem fx_X0_take (M : zM) (b : Nat) (h_b : b < 8) (a0 : Int32) (j : Nat) (h_j : zk j = 6) : z_Fx M (fX0_take M b a0 j) := by
  unfold fX0_take
  dsimp only
  repeat first | exact z_Fx.rf | refine z_Fx.u2 h_j rfl ?_ | refine z_Fx.tr ?_ (fx_X6_remove _ _ (zk_w h_b) _ h_j) | refine z_Fx.it ?_ ?_
set_option maxHeartbeats 4000000 in
set_option maxRecDepth 100000 in
theorem m_X0_take (l : Launch) (dC : Nat → ClassId) (dI : Nat → Nat → Nat) (ca : Nat → ClassId) (ad : Nat → Nat) (hI : z_I zd ad) (M : zM) (b : Nat) (h_b : b < 8) (a0 : Int32) (j : Nat) (h_j : zk j = 6) : Met l yX0_take wsX0_take ({ frames := 1, cells := 0, slots := 0, locals := 22 }) (z_Pc (dC, dI) vwCl (zt ca) zw_nest [.ref (ad (20 + b)), .int a0, .ref (ad j)] (fun H => zW dC dI ca ad M H)) (z_Qv (fun H => zW dC dI ca ad (fX0_take M b a0 j) H) (z_A zd ad)) 0 0 (z_A zd ad) := by
  refine Met.ofW (cc := cX0_take) (maxL := 4) (ret := none) (by decide) rfl ?_
  intro p e s m args below meth c s₁ B9 hml hv
  obtain ⟨rfl, hH, hK, hN⟩ := hv
  have hx := B9.exec
  have hb := B9.bytes
  have hr := B9.returns
  have hts := atoms_spec (ws := wsX0_take) B9.pre
  have hown : s.vm.findClass RX0 = some m.cls := findClass_of_methodNamed B9.named
  have hlocks := B9.notSynchronized
  have hS : va_S (z_A zd ad) s.heap s.heap [] := va_S.rf
  have hH : zW dC dI ca ad M s.heap := hH
  have hinX0 : ∀ w ∈ u_ws RX0 TX0 3, w ∈ wsX0_take := by decide +kernel
  have hinX6 : ∀ w ∈ u_ws RX6 TX6 4, w ∈ wsX0_take := by decide +kernel
  have hl := lv_entry ([.ref (ad (20 + b)), .int a0, .ref (ad j)]) (n := 4) (Nat.le_of_ble_eq_true rfl)
  rw [lg_entry_eq]
  generalize (lg_sl ([.ref (ad (20 + b)), .int a0, .ref (ad j)]) ++ List.replicate (4 - (lg_sl ([.ref (ad (20 + b)), .int a0, .ref (ad j)])).length) Slot.unset).toArray = ls at hl ⊢
  have hl : lv_has ls 4 [(0, .ref (ad (20 + b))), (1, .int a0), (2, .ref (ad j))] := hl
  refine lv_iload_n hx hb dX0_take_0 rfl (lv_at hl 1 rfl) ?_
  refine lv_aload_n hx hb dX0_take_1 rfl (lv_at hl 0 rfl) ?_
  refine z_gr (D := (dC, dI)) (cl := vwCl) (C := RX0) (T := TX0) (N := 3) (ci := 0) (k := 0) hx hb hts hinX0 hown hK hH (zk_b h_b) (by decide) rfl (by decide) rfl (zr_b h_b) (hts (.fieldLink RX0 10 "Steamfield$Block" "water" "LSteamfield$Water;") (by decide +kernel)) (fun _ h9 => h9) dX0_take_2 ?_
  refine z_giN (D := (dC, dI)) (cl := vwCl) (C := RX6) (T := TX6) (N := 4) (ci := 6) (k := 0) hx hb hts hinX6 hown hK hH (zk_w h_b) (by decide) rfl (by decide) rfl (hN (.fieldLinkNest RX0 27 "Steamfield$Water" "mass" "I" "Steamfield") (by decide +kernel)) (fun _ h9 => h9) dX0_take_5 ?_
  refine lv_topi (fun x1 ex1 => ?_)
  refine lv_iconst (v := 4) hx hb dX0_take_8 (by decide) ?_
  refine lv_idiv hx hb dX0_take_9 (by decide) ?_
  refine lv_topi (fun x2 ex2 => ?_)
  refine va_mmin hx hb (hml.trans hl.1.symm) hown (hts (.methodLink RX0 33 Lib.Math.min.name) (by decide +kernel)) (hts (.static Lib.Math.min.name) (by decide +kernel)) (hts (.initialized "java/lang/Math") (by decide +kernel)) (hts (.code Lib.Math.min.name Lib.Math.min.code 2 (some .int)) (by decide +kernel)) (Nat.le_of_ble_eq_true rfl) (Nat.le_of_ble_eq_true rfl) (Nat.le_refl _) (Nat.le_refl _) dX0_take_10 ?_
  refine lv_topi (fun x3 ex3 => ?_)
  refine lv_istore_n (lv' := [(3, .int x3), (0, .ref (ad (20 + b))), (1, .int a0), (2, .ref (ad j))]) hx hb dX0_take_13 rfl hl (by decide) rfl (fun ls hl => ?_)
  refine lv_aload_n hx hb dX0_take_14 rfl (lv_at hl 3 rfl) ?_
  refine lv_iload_n hx hb dX0_take_15 rfl (lv_at hl 0 rfl) ?_
  refine zp_iN (D := (dC, dI)) (cl := vwCl) (C := RX6) (T := TX6) (N := 4) (ci := 6) (k := 0) (ty := .int) hx hb hts hinX6 tyX6 tyX6_ok nmX6 hown hK hH hI hS (fun _ h => h) h_j (by decide) rfl (by decide) rfl (hN (.fieldLinkNest RX0 27 "Steamfield$Water" "mass" "I" "Steamfield") (by decide +kernel)) (fun _ h9 => h9) rfl (by decide +kernel) rfl rfl dX0_take_16 (fun H locs hH oq hS => ?_)
  obtain ⟨M4, hM4⟩ : ∃ z : zM, z = zu M j 0 x3 := ⟨_, rfl⟩
  rw [← hM4] at hH
  refine lv_aload_n hx hb dX0_take_19 rfl (lv_at hl 3 rfl) ?_
  refine lv_iload_n hx hb dX0_take_20 rfl (lv_at hl 0 rfl) ?_
  refine lv_aload_n hx hb dX0_take_21 rfl (lv_at hl 1 rfl) ?_
  refine z_cVi (D := (dC, dI)) (cl := vwCl) (tys := zt ca) (nw := zw_nest) (C := RX0) (As := []) (rest := [.int x3, .ref (ad j)]) ⟨hx, hb, hml, hown, hts⟩ (m_X0_warmth l dC dI ca ad hI M4 b h_b) (cwV 0 hts gX0_take_X0_warmth rfl rfl rfl (by decide +kernel) ⟨Nat.le_of_ble_eq_true rfl, Nat.le_of_ble_eq_true rfl⟩) (z_recv (ci := 0) (i := (20 + b)) hK hH (zk_b h_b) (by decide) rfl) hH hK hN zw_nest_ok rfl hl.1 rfl (Nat.le_of_ble_eq_true rfl) dX0_take_22 ⟨Nat.le_refl _, Nat.le_refl _⟩ hS (fun _ h => h) (fun H locs hB1 oq1 hz1 hS => ?_)
  have hH := hB1
  refine lv_topi (fun x5 ex5 => ?_)
  refine lv_imul hx hb dX0_take_25 ?_
  refine lv_topi (fun x6 ex6 => ?_)
  refine zp_iN (D := (dC, dI)) (cl := vwCl) (C := RX6) (T := TX6) (N := 4) (ci := 6) (k := 1) (ty := .int) hx hb hts hinX6 tyX6 tyX6_ok nmX6 hown hK hH hI hS (fun _ h => h) h_j (by decide) rfl (by decide) rfl (hN (.fieldLinkNest RX0 30 "Steamfield$Water" "heat" "I" "Steamfield") (by decide +kernel)) (fun _ h9 => h9) rfl (by decide +kernel) rfl rfl dX0_take_26 (fun H locs hH oq hS => ?_)
  obtain ⟨M7, hM7⟩ : ∃ z : zM, z = zu M4 j 1 x6 := ⟨_, rfl⟩
  rw [← hM7] at hH
  refine lv_aload_n hx hb dX0_take_29 rfl (lv_at hl 3 rfl) ?_
  refine lv_aload_n hx hb dX0_take_30 rfl (lv_at hl 1 rfl) ?_
  refine z_gr (D := (dC, dI)) (cl := vwCl) (C := RX0) (T := TX0) (N := 3) (ci := 0) (k := 0) hx hb hts hinX0 hown hK hH (zk_b h_b) (by decide) rfl (by decide) rfl (zr_b h_b) (hts (.fieldLink RX0 10 "Steamfield$Block" "water" "LSteamfield$Water;") (by decide +kernel)) (fun _ h9 => h9) dX0_take_31 ?_
  refine lv_aload_n hx hb dX0_take_34 rfl (lv_at hl 1 rfl) ?_
  refine z_gr (D := (dC, dI)) (cl := vwCl) (C := RX0) (T := TX0) (N := 3) (ci := 0) (k := 0) hx hb hts hinX0 hown hK hH (zk_b h_b) (by decide) rfl (by decide) rfl (zr_b h_b) (hts (.fieldLink RX0 10 "Steamfield$Block" "water" "LSteamfield$Water;") (by decide +kernel)) (fun _ h9 => h9) dX0_take_35 ?_
  refine z_giN (D := (dC, dI)) (cl := vwCl) (C := RX6) (T := TX6) (N := 4) (ci := 6) (k := 2) hx hb hts hinX6 hown hK hH (zk_w h_b) (by decide) rfl (by decide) rfl (hN (.fieldLinkNest RX0 43 "Steamfield$Water" "salt" "I" "Steamfield") (by decide +kernel)) (fun _ h9 => h9) dX0_take_38 ?_
  refine lv_topi (fun x8 ex8 => ?_)
  refine lv_iload_n hx hb dX0_take_41 rfl (lv_at hl 0 rfl) ?_
  refine z_cVi (D := (dC, dI)) (cl := vwCl) (tys := zt ca) (nw := zw_nest) (C := RX6) (As := [.int x8, .int x3]) (rest := [.ref (ad j)]) ⟨hx, hb, hml, hown, hts⟩ (m_X6_shareOf l dC dI ca ad hI M7 (30 + b) (zk_w h_b) x8 x3) (cwV 2 hts gX0_take_X6_shareOf rfl rfl rfl (by decide +kernel) ⟨Nat.le_of_ble_eq_true rfl, Nat.le_of_ble_eq_true rfl⟩) (z_recv (ci := 6) (i := (30 + b)) hK hH (zk_w h_b) (by decide) rfl) hH hK hN zw_nest_ok rfl hl.1 rfl (Nat.le_of_ble_eq_true rfl) dX0_take_42 ⟨Nat.le_refl _, Nat.le_refl _⟩ hS (fun _ h => h) (fun H locs hB1 oq1 hz1 hS => ?_)
  have hH := hB1
  refine lv_topi (fun x9 ex9 => ?_)
  refine zp_iN (D := (dC, dI)) (cl := vwCl) (C := RX6) (T := TX6) (N := 4) (ci := 6) (k := 2) (ty := .int) hx hb hts hinX6 tyX6 tyX6_ok nmX6 hown hK hH hI hS (fun _ h => h) h_j (by decide) rfl (by decide) rfl (hN (.fieldLinkNest RX0 43 "Steamfield$Water" "salt" "I" "Steamfield") (by decide +kernel)) (fun _ h9 => h9) rfl (by decide +kernel) rfl rfl dX0_take_45 (fun H locs hH oq hS => ?_)
  obtain ⟨M10, hM10⟩ : ∃ z : zM, z = zu M7 j 2 x9 := ⟨_, rfl⟩
  rw [← hM10] at hH
  refine lv_aload_n hx hb dX0_take_48 rfl (lv_at hl 3 rfl) ?_
  refine lv_aload_n hx hb dX0_take_49 rfl (lv_at hl 1 rfl) ?_
  refine z_gr (D := (dC, dI)) (cl := vwCl) (C := RX0) (T := TX0) (N := 3) (ci := 0) (k := 0) hx hb hts hinX0 hown hK hH (zk_b h_b) (by decide) rfl (by decide) rfl (zr_b h_b) (hts (.fieldLink RX0 10 "Steamfield$Block" "water" "LSteamfield$Water;") (by decide +kernel)) (fun _ h9 => h9) dX0_take_50 ?_
  refine lv_aload_n hx hb dX0_take_53 rfl (lv_at hl 1 rfl) ?_
  refine z_gr (D := (dC, dI)) (cl := vwCl) (C := RX0) (T := TX0) (N := 3) (ci := 0) (k := 0) hx hb hts hinX0 hown hK hH (zk_b h_b) (by decide) rfl (by decide) rfl (zr_b h_b) (hts (.fieldLink RX0 10 "Steamfield$Block" "water" "LSteamfield$Water;") (by decide +kernel)) (fun _ h9 => h9) dX0_take_54 ?_
  refine z_giN (D := (dC, dI)) (cl := vwCl) (C := RX6) (T := TX6) (N := 4) (ci := 6) (k := 3) hx hb hts hinX6 hown hK hH (zk_w h_b) (by decide) rfl (by decide) rfl (hN (.fieldLinkNest RX0 49 "Steamfield$Water" "tracer" "I" "Steamfield") (by decide +kernel)) (fun _ h9 => h9) dX0_take_57 ?_
  refine lv_topi (fun x11 ex11 => ?_)
  refine lv_iload_n hx hb dX0_take_60 rfl (lv_at hl 0 rfl) ?_
  refine z_cVi (D := (dC, dI)) (cl := vwCl) (tys := zt ca) (nw := zw_nest) (C := RX6) (As := [.int x11, .int x3]) (rest := [.ref (ad j)]) ⟨hx, hb, hml, hown, hts⟩ (m_X6_shareOf l dC dI ca ad hI M10 (30 + b) (zk_w h_b) x11 x3) (cwV 2 hts gX0_take_X6_shareOf rfl rfl rfl (by decide +kernel) ⟨Nat.le_of_ble_eq_true rfl, Nat.le_of_ble_eq_true rfl⟩) (z_recv (ci := 6) (i := (30 + b)) hK hH (zk_w h_b) (by decide) rfl) hH hK hN zw_nest_ok rfl hl.1 rfl (Nat.le_of_ble_eq_true rfl) dX0_take_61 ⟨Nat.le_refl _, Nat.le_refl _⟩ hS (fun _ h => h) (fun H locs hB1 oq1 hz1 hS => ?_)
  have hH := hB1
  refine lv_topi (fun x12 ex12 => ?_)
  refine zp_iN (D := (dC, dI)) (cl := vwCl) (C := RX6) (T := TX6) (N := 4) (ci := 6) (k := 3) (ty := .int) hx hb hts hinX6 tyX6 tyX6_ok nmX6 hown hK hH hI hS (fun _ h => h) h_j (by decide) rfl (by decide) rfl (hN (.fieldLinkNest RX0 49 "Steamfield$Water" "tracer" "I" "Steamfield") (by decide +kernel)) (fun _ h9 => h9) rfl (by decide +kernel) rfl rfl dX0_take_64 (fun H locs hH oq hS => ?_)
  obtain ⟨M13, hM13⟩ : ∃ z : zM, z = zu M10 j 3 x12 := ⟨_, rfl⟩
  rw [← hM13] at hH
  refine lv_aload_n hx hb dX0_take_67 rfl (lv_at hl 1 rfl) ?_
  refine z_gr (D := (dC, dI)) (cl := vwCl) (C := RX0) (T := TX0) (N := 3) (ci := 0) (k := 0) hx hb hts hinX0 hown hK hH (zk_b h_b) (by decide) rfl (by decide) rfl (zr_b h_b) (hts (.fieldLink RX0 10 "Steamfield$Block" "water" "LSteamfield$Water;") (by decide +kernel)) (fun _ h9 => h9) dX0_take_68 ?_
  refine lv_aload_n hx hb dX0_take_71 rfl (lv_at hl 3 rfl) ?_
  refine z_cVv (D := (dC, dI)) (cl := vwCl) (tys := zt ca) (nw := zw_nest) (C := RX6) (As := [.ref (ad j)]) (rest := []) ⟨hx, hb, hml, hown, hts⟩ (m_X6_remove l dC dI ca ad hI M13 (30 + b) (zk_w h_b) j h_j) (cwV 1 hts gX0_take_X6_remove rfl rfl rfl (by decide +kernel) ⟨Nat.le_of_ble_eq_true rfl, Nat.le_of_ble_eq_true rfl⟩) (z_recv (ci := 6) (i := (30 + b)) hK hH (zk_w h_b) (by decide) rfl) hH hK hN zw_nest_ok rfl hl.1 rfl (Nat.le_of_ble_eq_true rfl) dX0_take_72 ⟨Nat.le_refl _, Nat.le_refl _⟩ hS (fun _ h => h) (fun H locs hB1 oq1 hz1 hS => ?_)
  have hH := hB1
  obtain ⟨M14, hM14⟩ : ∃ z : zM, z = fX6_remove M13 (30 + b) j := ⟨_, rfl⟩
  have hH : z_H (dC, dI) vwCl zf ca zd ad M14 H := by rw [hM14]; exact hH
  have hF0 : zW dC dI ca ad (fX0_take M b a0 j) H := by
    have e9 : M14 = (fX0_take M b a0 j) := by subst hM14; subst hM13; subst ex12; subst ex11; subst hM10; subst ex9; subst ex8; subst hM7; subst ex6; subst ex5; subst hM4; subst ex3; subst ex2; subst ex1; rfl
    rw [← e9]; exact hH
  exact W.vret hx hb hr (fun t ht hW => ⟨⟨(), rfl, trivial, z_to (B := fun H => zW dC dI ca ad (fX0_take M b a0 j) H) ht hF0⟩, hS.F ht⟩) hS.2.2 dX0_take_75

def fX7_note (M : zM) (v : Nat) (j : Nat) (a0 : Int32) : zM :=
  let x1 : Int32 := M j 0
  let M2 : zM := zu M (60 + v) 5 x1
  let M3 : zM := zu M2 (60 + v) 6 a0
  let x4 : Int32 := M3 j 3
  let M5 : zM := zu M3 (60 + v) 7 x4
  let x6 : Int32 := M5 (60 + v) 8
  let x7 : Int32 := M5 j 0
  let x8 : Int32 := x6 + x7
  let M9 : zM := zu M5 (60 + v) 8 x8
  M9
theorem fx_X7_note (M : zM) (v : Nat) (h_v : v < 6) (j : Nat) (h_j : zk j = 6) (a0 : Int32) : z_Fx M (fX7_note M v j a0) := by
  unfold fX7_note
  dsimp only
  repeat first | exact z_Fx.rf | refine z_Fx.u2 (zk_v h_v) rfl ?_ | refine z_Fx.it ?_ ?_
set_option maxHeartbeats 4000000 in
set_option maxRecDepth 100000 in
theorem m_X7_note (l : Launch) (dC : Nat → ClassId) (dI : Nat → Nat → Nat) (ca : Nat → ClassId) (ad : Nat → Nat) (hI : z_I zd ad) (M : zM) (v : Nat) (h_v : v < 6) (j : Nat) (h_j : zk j = 6) (a0 : Int32) : Met l yX7_note wsX7_note ({ frames := 0, cells := 0, slots := 0, locals := 0 }) (z_Pc (dC, dI) vwCl (zt ca) zw_nest [.ref (ad (60 + v)), .ref (ad j), .int a0] (fun H => zW dC dI ca ad M H)) (z_Qv (fun H => zW dC dI ca ad (fX7_note M v j a0) H) (z_A zd ad)) 0 0 (z_A zd ad) := by
  refine Met.ofW (cc := cX7_note) (maxL := 3) (ret := none) (by decide) rfl ?_
  intro p e s m args below meth c s₁ B9 hml hv
  obtain ⟨rfl, hH, hK, hN⟩ := hv
  have hx := B9.exec
  have hb := B9.bytes
  have hr := B9.returns
  have hts := atoms_spec (ws := wsX7_note) B9.pre
  have hown : s.vm.findClass RX7 = some m.cls := findClass_of_methodNamed B9.named
  have hlocks := B9.notSynchronized
  have hS : va_S (z_A zd ad) s.heap s.heap [] := va_S.rf
  have hH : zW dC dI ca ad M s.heap := hH
  have hinX6 : ∀ w ∈ u_ws RX6 TX6 4, w ∈ wsX7_note := by decide +kernel
  have hinX7 : ∀ w ∈ u_ws RX7 TX7 9, w ∈ wsX7_note := by decide +kernel
  have hl := lv_entry ([.ref (ad (60 + v)), .ref (ad j), .int a0]) (n := 3) (Nat.le_of_ble_eq_true rfl)
  rw [lg_entry_eq]
  generalize (lg_sl ([.ref (ad (60 + v)), .ref (ad j), .int a0]) ++ List.replicate (3 - (lg_sl ([.ref (ad (60 + v)), .ref (ad j), .int a0])).length) Slot.unset).toArray = ls at hl ⊢
  have hl : lv_has ls 3 [(0, .ref (ad (60 + v))), (1, .ref (ad j)), (2, .int a0)] := hl
  refine lv_aload_n hx hb dX7_note_0 rfl (lv_at hl 0 rfl) ?_
  refine lv_aload_n hx hb dX7_note_1 rfl (lv_at hl 1 rfl) ?_
  refine z_giN (D := (dC, dI)) (cl := vwCl) (C := RX6) (T := TX6) (N := 4) (ci := 6) (k := 0) hx hb hts hinX6 hown hK hH h_j (by decide) rfl (by decide) rfl (hN (.fieldLinkNest RX7 40 "Steamfield$Water" "mass" "I" "Steamfield") (by decide +kernel)) (fun _ h9 => h9) dX7_note_2 ?_
  refine lv_topi (fun x1 ex1 => ?_)
  refine zp_i (D := (dC, dI)) (cl := vwCl) (C := RX7) (T := TX7) (N := 9) (ci := 7) (k := 5) (ty := .int) hx hb hts hinX7 tyX7 tyX7_ok nmX7 hown hK hH hI hS (fun _ h => h) (zk_v h_v) (by decide) rfl (by decide) rfl (hts (.fieldLink RX7 28 "Steamfield$Well" "flow" "I") (by decide +kernel)) (fun _ h9 => h9) rfl (by decide +kernel) rfl rfl dX7_note_5 (fun H locs hH oq hS => ?_)
  obtain ⟨M2, hM2⟩ : ∃ z : zM, z = zu M (60 + v) 5 x1 := ⟨_, rfl⟩
  rw [← hM2] at hH
  refine lv_aload_n hx hb dX7_note_8 rfl (lv_at hl 0 rfl) ?_
  refine lv_iload_n hx hb dX7_note_9 rfl (lv_at hl 2 rfl) ?_
  refine zp_i (D := (dC, dI)) (cl := vwCl) (C := RX7) (T := TX7) (N := 9) (ci := 7) (k := 6) (ty := .int) hx hb hts hinX7 tyX7 tyX7_ok nmX7 hown hK hH hI hS (fun _ h => h) (zk_v h_v) (by decide) rfl (by decide) rfl (hts (.fieldLink RX7 31 "Steamfield$Well" "steam" "I") (by decide +kernel)) (fun _ h9 => h9) rfl (by decide +kernel) rfl rfl dX7_note_10 (fun H locs hH oq hS => ?_)
  obtain ⟨M3, hM3⟩ : ∃ z : zM, z = zu M2 (60 + v) 6 a0 := ⟨_, rfl⟩
  rw [← hM3] at hH
  refine lv_aload_n hx hb dX7_note_13 rfl (lv_at hl 0 rfl) ?_
  refine lv_aload_n hx hb dX7_note_14 rfl (lv_at hl 1 rfl) ?_
  refine z_giN (D := (dC, dI)) (cl := vwCl) (C := RX6) (T := TX6) (N := 4) (ci := 6) (k := 3) hx hb hts hinX6 hown hK hH h_j (by decide) rfl (by decide) rfl (hN (.fieldLinkNest RX7 45 "Steamfield$Water" "tracer" "I" "Steamfield") (by decide +kernel)) (fun _ h9 => h9) dX7_note_15 ?_
  refine lv_topi (fun x4 ex4 => ?_)
  refine zp_i (D := (dC, dI)) (cl := vwCl) (C := RX7) (T := TX7) (N := 9) (ci := 7) (k := 7) (ty := .int) hx hb hts hinX7 tyX7 tyX7_ok nmX7 hown hK hH hI hS (fun _ h => h) (zk_v h_v) (by decide) rfl (by decide) rfl (hts (.fieldLink RX7 34 "Steamfield$Well" "tracer" "I") (by decide +kernel)) (fun _ h9 => h9) rfl (by decide +kernel) rfl rfl dX7_note_18 (fun H locs hH oq hS => ?_)
  obtain ⟨M5, hM5⟩ : ∃ z : zM, z = zu M3 (60 + v) 7 x4 := ⟨_, rfl⟩
  rw [← hM5] at hH
  refine lv_aload_n hx hb dX7_note_21 rfl (lv_at hl 0 rfl) ?_
  refine lv_dup hx hb dX7_note_22 rfl ?_
  refine z_gi (D := (dC, dI)) (cl := vwCl) (C := RX7) (T := TX7) (N := 9) (ci := 7) (k := 8) hx hb hts hinX7 hown hK hH (zk_v h_v) (by decide) rfl (by decide) rfl (hts (.fieldLink RX7 37 "Steamfield$Well" "flowEver" "I") (by decide +kernel)) (fun _ h9 => h9) dX7_note_23 ?_
  refine lv_topi (fun x6 ex6 => ?_)
  refine lv_aload_n hx hb dX7_note_26 rfl (lv_at hl 1 rfl) ?_
  refine z_giN (D := (dC, dI)) (cl := vwCl) (C := RX6) (T := TX6) (N := 4) (ci := 6) (k := 0) hx hb hts hinX6 hown hK hH h_j (by decide) rfl (by decide) rfl (hN (.fieldLinkNest RX7 40 "Steamfield$Water" "mass" "I" "Steamfield") (by decide +kernel)) (fun _ h9 => h9) dX7_note_27 ?_
  refine lv_topi (fun x7 ex7 => ?_)
  refine lv_iadd hx hb dX7_note_30 ?_
  refine lv_topi (fun x8 ex8 => ?_)
  refine zp_i (D := (dC, dI)) (cl := vwCl) (C := RX7) (T := TX7) (N := 9) (ci := 7) (k := 8) (ty := .int) hx hb hts hinX7 tyX7 tyX7_ok nmX7 hown hK hH hI hS (fun _ h => h) (zk_v h_v) (by decide) rfl (by decide) rfl (hts (.fieldLink RX7 37 "Steamfield$Well" "flowEver" "I") (by decide +kernel)) (fun _ h9 => h9) rfl (by decide +kernel) rfl rfl dX7_note_31 (fun H locs hH oq hS => ?_)
  obtain ⟨M9, hM9⟩ : ∃ z : zM, z = zu M5 (60 + v) 8 x8 := ⟨_, rfl⟩
  rw [← hM9] at hH
  have hF0 : zW dC dI ca ad (fX7_note M v j a0) H := by
    have e9 : M9 = (fX7_note M v j a0) := by subst hM9; subst ex8; subst ex7; subst ex6; subst hM5; subst ex4; subst hM3; subst hM2; subst ex1; rfl
    rw [← e9]; exact hH
  exact W.vret hx hb hr (fun t ht hW => ⟨⟨(), rfl, trivial, z_to (B := fun H => zW dC dI ca ad (fX7_note M v j a0) H) ht hF0⟩, hS.F ht⟩) hS.2.2 dX7_note_34

def fX7_growCrust (M : zM) (v : Nat) : zM :=
  let x1 : Int32 := M (60 + v) 4
  let x2 : Int32 := x1 + 1
  let M3 : zM := zu M (60 + v) 4 x2
  let x4 : Int32 := M3 (60 + v) 4
  let M6 : zM := if x4 < 5 then M3 else (let M6 : zM := zu M3 (60 + v) 4 0; let x7 : Int32 := M6 (60 + v) 3; let x8 : Int32 := x7 + 1; let x9 : Int32 := if 9 < x8 then 9 else x8; let M10 : zM := zu M6 (60 + v) 3 x9; M10)
  M6
theorem fx_X7_growCrust (M : zM) (v : Nat) (h_v : v < 6) : z_Fx M (fX7_growCrust M v) := by
  unfold fX7_growCrust
  dsimp only
  repeat first | exact z_Fx.rf | refine z_Fx.u2 (zk_v h_v) rfl ?_ | refine z_Fx.it ?_ ?_
set_option maxHeartbeats 4000000 in
set_option maxRecDepth 100000 in
theorem m_X7_growCrust (l : Launch) (dC : Nat → ClassId) (dI : Nat → Nat → Nat) (ca : Nat → ClassId) (ad : Nat → Nat) (hI : z_I zd ad) (M : zM) (v : Nat) (h_v : v < 6) : Met l yX7_growCrust wsX7_growCrust ({ frames := 1, cells := 0, slots := 0, locals := 21 }) (z_Pc (dC, dI) vwCl (zt ca) zw_nest [.ref (ad (60 + v))] (fun H => zW dC dI ca ad M H)) (z_Qv (fun H => zW dC dI ca ad (fX7_growCrust M v) H) (z_A zd ad)) 0 0 (z_A zd ad) := by
  refine Met.ofW (cc := cX7_growCrust) (maxL := 1) (ret := none) (by decide) rfl ?_
  intro p e s m args below meth c s₁ B9 hml hv
  obtain ⟨rfl, hH, hK, hN⟩ := hv
  have hx := B9.exec
  have hb := B9.bytes
  have hr := B9.returns
  have hts := atoms_spec (ws := wsX7_growCrust) B9.pre
  have hown : s.vm.findClass RX7 = some m.cls := findClass_of_methodNamed B9.named
  have hlocks := B9.notSynchronized
  have hS : va_S (z_A zd ad) s.heap s.heap [] := va_S.rf
  have hH : zW dC dI ca ad M s.heap := hH
  have hinX7 : ∀ w ∈ u_ws RX7 TX7 9, w ∈ wsX7_growCrust := by decide +kernel
  have hl := lv_entry ([.ref (ad (60 + v))]) (n := 1) (Nat.le_of_ble_eq_true rfl)
  rw [lg_entry_eq]
  generalize (lg_sl ([.ref (ad (60 + v))]) ++ List.replicate (1 - (lg_sl ([.ref (ad (60 + v))])).length) Slot.unset).toArray = ls at hl ⊢
  have hl : lv_has ls 1 [(0, .ref (ad (60 + v)))] := hl
  refine lv_aload_n hx hb dX7_growCrust_0 rfl (lv_at hl 0 rfl) ?_
  refine lv_dup hx hb dX7_growCrust_1 rfl ?_
  refine z_gi (D := (dC, dI)) (cl := vwCl) (C := RX7) (T := TX7) (N := 9) (ci := 7) (k := 4) hx hb hts hinX7 hown hK hH (zk_v h_v) (by decide) rfl (by decide) rfl (hts (.fieldLink RX7 25 "Steamfield$Well" "crust" "I") (by decide +kernel)) (fun _ h9 => h9) dX7_growCrust_2 ?_
  refine lv_topi (fun x1 ex1 => ?_)
  refine lv_iconst (v := 1) hx hb dX7_growCrust_5 (by decide) ?_
  refine lv_iadd hx hb dX7_growCrust_6 ?_
  refine lv_topi (fun x2 ex2 => ?_)
  refine zp_i (D := (dC, dI)) (cl := vwCl) (C := RX7) (T := TX7) (N := 9) (ci := 7) (k := 4) (ty := .int) hx hb hts hinX7 tyX7 tyX7_ok nmX7 hown hK hH hI hS (fun _ h => h) (zk_v h_v) (by decide) rfl (by decide) rfl (hts (.fieldLink RX7 25 "Steamfield$Well" "crust" "I") (by decide +kernel)) (fun _ h9 => h9) rfl (by decide +kernel) rfl rfl dX7_growCrust_7 (fun H locs hH oq hS => ?_)
  obtain ⟨M3, hM3⟩ : ∃ z : zM, z = zu M (60 + v) 4 x2 := ⟨_, rfl⟩
  rw [← hM3] at hH
  refine lv_aload_n hx hb dX7_growCrust_10 rfl (lv_at hl 0 rfl) ?_
  refine z_gi (D := (dC, dI)) (cl := vwCl) (C := RX7) (T := TX7) (N := 9) (ci := 7) (k := 4) hx hb hts hinX7 hown hK hH (zk_v h_v) (by decide) rfl (by decide) rfl (hts (.fieldLink RX7 25 "Steamfield$Well" "crust" "I") (by decide +kernel)) (fun _ h9 => h9) dX7_growCrust_11 ?_
  refine lv_topi (fun x4 ex4 => ?_)
  refine lv_iconst (v := 5) hx hb dX7_growCrust_14 (by decide) ?_
  have J7 : ∀ M6 : zM, M6 = (if x4 < 5 then M3 else (let M6 : zM := zu M3 (60 + v) 4 0; let x7 : Int32 := M6 (60 + v) 3; let x8 : Int32 := x7 + 1; let x9 : Int32 := if 9 < x8 then 9 else x8; let M10 : zM := zu M6 (60 + v) 3 x9; M10)) → ∀ ls : Array Slot, lv_has ls 1 [(0, .ref (ad (60 + v)))] → ∀ (H : Heap) (locs : List Loc), zW dC dI ca ad M6 H → va_S (z_A zd ad) s.heap H locs → W p l e (headSpec wsX7_growCrust ({ frames := 1, cells := 0, slots := 0, locals := 21 })).room s m ([.ref (ad (60 + v))] : List Value).toArray below meth c H locs 0 0 (MQ below (z_Qv (fun H => zW dC dI ca ad (fX7_growCrust M v) H) (z_A zd ad)) ([.ref (ad (60 + v))] : List Value).toArray s 0 0 (z_A zd ad)) (F0 m 38 ls []) := by
    intro M6 hM6 ls hl H locs hH hS
    have hF0 : zW dC dI ca ad (fX7_growCrust M v) H := by
      have e9 : M6 = (fX7_growCrust M v) := by subst hM6; subst ex4; subst hM3; subst ex2; subst ex1; rfl
      rw [← e9]; exact hH
    exact W.vret hx hb hr (fun t ht hW => ⟨⟨(), rfl, trivial, z_to (B := fun H => zW dC dI ca ad (fX7_growCrust M v) H) ht hF0⟩, hS.F ht⟩) hS.2.2 dX7_growCrust_38
  refine lv_icmp_lt (tgt := 38) hx hb dX7_growCrust_15 (by decide) (fun c5 => ?_) (fun c5 => ?_)
  · exact J7 _ (by exact (if_pos c5).symm) ls (lv_sub hl [0] rfl) _ _ hH hS
  · refine lv_aload_n hx hb dX7_growCrust_18 rfl (lv_at hl 0 rfl) ?_
    refine lv_iconst (v := 0) hx hb dX7_growCrust_19 (by decide) ?_
    refine zp_i (D := (dC, dI)) (cl := vwCl) (C := RX7) (T := TX7) (N := 9) (ci := 7) (k := 4) (ty := .int) hx hb hts hinX7 tyX7 tyX7_ok nmX7 hown hK hH hI hS (fun _ h => h) (zk_v h_v) (by decide) rfl (by decide) rfl (hts (.fieldLink RX7 25 "Steamfield$Well" "crust" "I") (by decide +kernel)) (fun _ h9 => h9) rfl (by decide +kernel) rfl rfl dX7_growCrust_20 (fun H locs hH oq hS => ?_)
    obtain ⟨M6, hM6⟩ : ∃ z : zM, z = zu M3 (60 + v) 4 0 := ⟨_, rfl⟩
    rw [← hM6] at hH
    refine lv_aload_n hx hb dX7_growCrust_23 rfl (lv_at hl 0 rfl) ?_
    refine lv_aload_n hx hb dX7_growCrust_24 rfl (lv_at hl 0 rfl) ?_
    refine z_gi (D := (dC, dI)) (cl := vwCl) (C := RX7) (T := TX7) (N := 9) (ci := 7) (k := 3) hx hb hts hinX7 hown hK hH (zk_v h_v) (by decide) rfl (by decide) rfl (hts (.fieldLink RX7 22 "Steamfield$Well" "scale" "I") (by decide +kernel)) (fun _ h9 => h9) dX7_growCrust_25 ?_
    refine lv_topi (fun x7 ex7 => ?_)
    refine lv_iconst (v := 1) hx hb dX7_growCrust_28 (by decide) ?_
    refine lv_iadd hx hb dX7_growCrust_29 ?_
    refine lv_topi (fun x8 ex8 => ?_)
    refine lv_bipush (v := 9) hx hb dX7_growCrust_30 (by decide) ?_
    refine va_mmin hx hb (hml.trans hl.1.symm) hown (hts (.methodLink RX7 46 Lib.Math.min.name) (by decide +kernel)) (hts (.static Lib.Math.min.name) (by decide +kernel)) (hts (.initialized "java/lang/Math") (by decide +kernel)) (hts (.code Lib.Math.min.name Lib.Math.min.code 2 (some .int)) (by decide +kernel)) (Nat.le_of_ble_eq_true rfl) (Nat.le_of_ble_eq_true rfl) (Nat.le_refl _) (Nat.le_refl _) dX7_growCrust_32 ?_
    refine lv_topi (fun x9 ex9 => ?_)
    refine zp_i (D := (dC, dI)) (cl := vwCl) (C := RX7) (T := TX7) (N := 9) (ci := 7) (k := 3) (ty := .int) hx hb hts hinX7 tyX7 tyX7_ok nmX7 hown hK hH hI hS (fun _ h => h) (zk_v h_v) (by decide) rfl (by decide) rfl (hts (.fieldLink RX7 22 "Steamfield$Well" "scale" "I") (by decide +kernel)) (fun _ h9 => h9) rfl (by decide +kernel) rfl rfl dX7_growCrust_35 (fun H locs hH oq hS => ?_)
    obtain ⟨M10, hM10⟩ : ∃ z : zM, z = zu M6 (60 + v) 3 x9 := ⟨_, rfl⟩
    rw [← hM10] at hH
    exact J7 _ (by subst hM10; subst ex9; subst ex8; subst ex7; subst hM6; exact (if_neg c5).symm) ls (lv_sub hl [0] rfl) _ _ hH hS

def fX5_note (M : zM) (s0 : Nat) (a0 : Int32) : zM :=
  let M1 : zM := zu M (70 + s0) 3 a0
  let x2 : Int32 := M1 (70 + s0) 2
  let x3 : Int32 := x2 - a0
  let x4 : Int32 := if x3 < 0 then 0 else x3
  let M5 : zM := zu M1 (70 + s0) 4 x4
  let x6 : Int32 := M5 (70 + s0) 5
  let x7 : Int32 := M5 (70 + s0) 3
  let x8 : Int32 := x6 + x7
  let M9 : zM := zu M5 (70 + s0) 5 x8
  let x10 : Int32 := M9 (70 + s0) 6
  let x11 : Int32 := M9 (70 + s0) 4
  let x12 : Int32 := x10 + x11
  let M13 : zM := zu M9 (70 + s0) 6 x12
  M13
theorem fx_X5_note (M : zM) (s0 : Nat) (h_s0 : s0 < 3) (a0 : Int32) : z_Fx M (fX5_note M s0 a0) := by
  unfold fX5_note
  dsimp only
  repeat first | exact z_Fx.rf | refine z_Fx.u2 (zk_s h_s0) rfl ?_ | refine z_Fx.it ?_ ?_
set_option maxHeartbeats 4000000 in
set_option maxRecDepth 100000 in
theorem m_X5_note (l : Launch) (dC : Nat → ClassId) (dI : Nat → Nat → Nat) (ca : Nat → ClassId) (ad : Nat → Nat) (hI : z_I zd ad) (M : zM) (s0 : Nat) (h_s0 : s0 < 3) (a0 : Int32) : Met l yX5_note wsX5_note ({ frames := 1, cells := 0, slots := 0, locals := 21 }) (z_Pc (dC, dI) vwCl (zt ca) zw_nest [.ref (ad (70 + s0)), .int a0] (fun H => zW dC dI ca ad M H)) (z_Qv (fun H => zW dC dI ca ad (fX5_note M s0 a0) H) (z_A zd ad)) 0 0 (z_A zd ad) := by
  refine Met.ofW (cc := cX5_note) (maxL := 2) (ret := none) (by decide) rfl ?_
  intro p e s m args below meth c s₁ B9 hml hv
  obtain ⟨rfl, hH, hK, hN⟩ := hv
  have hx := B9.exec
  have hb := B9.bytes
  have hr := B9.returns
  have hts := atoms_spec (ws := wsX5_note) B9.pre
  have hown : s.vm.findClass RX5 = some m.cls := findClass_of_methodNamed B9.named
  have hlocks := B9.notSynchronized
  have hS : va_S (z_A zd ad) s.heap s.heap [] := va_S.rf
  have hH : zW dC dI ca ad M s.heap := hH
  have hinX5 : ∀ w ∈ u_ws RX5 TX5 7, w ∈ wsX5_note := by decide +kernel
  have hl := lv_entry ([.ref (ad (70 + s0)), .int a0]) (n := 2) (Nat.le_of_ble_eq_true rfl)
  rw [lg_entry_eq]
  generalize (lg_sl ([.ref (ad (70 + s0)), .int a0]) ++ List.replicate (2 - (lg_sl ([.ref (ad (70 + s0)), .int a0])).length) Slot.unset).toArray = ls at hl ⊢
  have hl : lv_has ls 2 [(0, .ref (ad (70 + s0))), (1, .int a0)] := hl
  refine lv_aload_n hx hb dX5_note_0 rfl (lv_at hl 0 rfl) ?_
  refine lv_iload_n hx hb dX5_note_1 rfl (lv_at hl 1 rfl) ?_
  refine zp_i (D := (dC, dI)) (cl := vwCl) (C := RX5) (T := TX5) (N := 7) (ci := 5) (k := 3) (ty := .int) hx hb hts hinX5 tyX5 tyX5_ok nmX5 hown hK hH hI hS (fun _ h => h) (zk_s h_s0) (by decide) rfl (by decide) rfl (hts (.fieldLink RX5 19 "Steamfield$Spring" "flow" "I") (by decide +kernel)) (fun _ h9 => h9) rfl (by decide +kernel) rfl rfl dX5_note_2 (fun H locs hH oq hS => ?_)
  obtain ⟨M1, hM1⟩ : ∃ z : zM, z = zu M (70 + s0) 3 a0 := ⟨_, rfl⟩
  rw [← hM1] at hH
  refine lv_aload_n hx hb dX5_note_5 rfl (lv_at hl 0 rfl) ?_
  refine lv_aload_n hx hb dX5_note_6 rfl (lv_at hl 0 rfl) ?_
  refine z_gi (D := (dC, dI)) (cl := vwCl) (C := RX5) (T := TX5) (N := 7) (ci := 5) (k := 2) hx hb hts hinX5 hown hK hH (zk_s h_s0) (by decide) rfl (by decide) rfl (hts (.fieldLink RX5 16 "Steamfield$Spring" "promise" "I") (by decide +kernel)) (fun _ h9 => h9) dX5_note_7 ?_
  refine lv_topi (fun x2 ex2 => ?_)
  refine lv_iload_n hx hb dX5_note_10 rfl (lv_at hl 1 rfl) ?_
  refine lv_isub hx hb dX5_note_11 ?_
  refine lv_topi (fun x3 ex3 => ?_)
  refine lv_iconst (v := 0) hx hb dX5_note_12 (by decide) ?_
  refine va_mmax hx hb (hml.trans hl.1.symm) hown (hts (.methodLink RX5 31 Lib.Math.max.name) (by decide +kernel)) (hts (.static Lib.Math.max.name) (by decide +kernel)) (hts (.initialized "java/lang/Math") (by decide +kernel)) (hts (.code Lib.Math.max.name Lib.Math.max.code 2 (some .int)) (by decide +kernel)) (Nat.le_of_ble_eq_true rfl) (Nat.le_of_ble_eq_true rfl) (Nat.le_refl _) (Nat.le_refl _) dX5_note_13 ?_
  refine lv_topi (fun x4 ex4 => ?_)
  refine zp_i (D := (dC, dI)) (cl := vwCl) (C := RX5) (T := TX5) (N := 7) (ci := 5) (k := 4) (ty := .int) hx hb hts hinX5 tyX5 tyX5_ok nmX5 hown hK hH hI hS (fun _ h => h) (zk_s h_s0) (by decide) rfl (by decide) rfl (hts (.fieldLink RX5 22 "Steamfield$Spring" "lacked" "I") (by decide +kernel)) (fun _ h9 => h9) rfl (by decide +kernel) rfl rfl dX5_note_16 (fun H locs hH oq hS => ?_)
  obtain ⟨M5, hM5⟩ : ∃ z : zM, z = zu M1 (70 + s0) 4 x4 := ⟨_, rfl⟩
  rw [← hM5] at hH
  refine lv_aload_n hx hb dX5_note_19 rfl (lv_at hl 0 rfl) ?_
  refine lv_dup hx hb dX5_note_20 rfl ?_
  refine z_gi (D := (dC, dI)) (cl := vwCl) (C := RX5) (T := TX5) (N := 7) (ci := 5) (k := 5) hx hb hts hinX5 hown hK hH (zk_s h_s0) (by decide) rfl (by decide) rfl (hts (.fieldLink RX5 25 "Steamfield$Spring" "flowEver" "I") (by decide +kernel)) (fun _ h9 => h9) dX5_note_21 ?_
  refine lv_topi (fun x6 ex6 => ?_)
  refine lv_aload_n hx hb dX5_note_24 rfl (lv_at hl 0 rfl) ?_
  refine z_gi (D := (dC, dI)) (cl := vwCl) (C := RX5) (T := TX5) (N := 7) (ci := 5) (k := 3) hx hb hts hinX5 hown hK hH (zk_s h_s0) (by decide) rfl (by decide) rfl (hts (.fieldLink RX5 19 "Steamfield$Spring" "flow" "I") (by decide +kernel)) (fun _ h9 => h9) dX5_note_25 ?_
  refine lv_topi (fun x7 ex7 => ?_)
  refine lv_iadd hx hb dX5_note_28 ?_
  refine lv_topi (fun x8 ex8 => ?_)
  refine zp_i (D := (dC, dI)) (cl := vwCl) (C := RX5) (T := TX5) (N := 7) (ci := 5) (k := 5) (ty := .int) hx hb hts hinX5 tyX5 tyX5_ok nmX5 hown hK hH hI hS (fun _ h => h) (zk_s h_s0) (by decide) rfl (by decide) rfl (hts (.fieldLink RX5 25 "Steamfield$Spring" "flowEver" "I") (by decide +kernel)) (fun _ h9 => h9) rfl (by decide +kernel) rfl rfl dX5_note_29 (fun H locs hH oq hS => ?_)
  obtain ⟨M9, hM9⟩ : ∃ z : zM, z = zu M5 (70 + s0) 5 x8 := ⟨_, rfl⟩
  rw [← hM9] at hH
  refine lv_aload_n hx hb dX5_note_32 rfl (lv_at hl 0 rfl) ?_
  refine lv_dup hx hb dX5_note_33 rfl ?_
  refine z_gi (D := (dC, dI)) (cl := vwCl) (C := RX5) (T := TX5) (N := 7) (ci := 5) (k := 6) hx hb hts hinX5 hown hK hH (zk_s h_s0) (by decide) rfl (by decide) rfl (hts (.fieldLink RX5 28 "Steamfield$Spring" "lackedEver" "I") (by decide +kernel)) (fun _ h9 => h9) dX5_note_34 ?_
  refine lv_topi (fun x10 ex10 => ?_)
  refine lv_aload_n hx hb dX5_note_37 rfl (lv_at hl 0 rfl) ?_
  refine z_gi (D := (dC, dI)) (cl := vwCl) (C := RX5) (T := TX5) (N := 7) (ci := 5) (k := 4) hx hb hts hinX5 hown hK hH (zk_s h_s0) (by decide) rfl (by decide) rfl (hts (.fieldLink RX5 22 "Steamfield$Spring" "lacked" "I") (by decide +kernel)) (fun _ h9 => h9) dX5_note_38 ?_
  refine lv_topi (fun x11 ex11 => ?_)
  refine lv_iadd hx hb dX5_note_41 ?_
  refine lv_topi (fun x12 ex12 => ?_)
  refine zp_i (D := (dC, dI)) (cl := vwCl) (C := RX5) (T := TX5) (N := 7) (ci := 5) (k := 6) (ty := .int) hx hb hts hinX5 tyX5 tyX5_ok nmX5 hown hK hH hI hS (fun _ h => h) (zk_s h_s0) (by decide) rfl (by decide) rfl (hts (.fieldLink RX5 28 "Steamfield$Spring" "lackedEver" "I") (by decide +kernel)) (fun _ h9 => h9) rfl (by decide +kernel) rfl rfl dX5_note_42 (fun H locs hH oq hS => ?_)
  obtain ⟨M13, hM13⟩ : ∃ z : zM, z = zu M9 (70 + s0) 6 x12 := ⟨_, rfl⟩
  rw [← hM13] at hH
  have hF0 : zW dC dI ca ad (fX5_note M s0 a0) H := by
    have e9 : M13 = (fX5_note M s0 a0) := by subst hM13; subst ex12; subst ex11; subst ex10; subst hM9; subst ex8; subst ex7; subst ex6; subst hM5; subst ex4; subst ex3; subst ex2; subst hM1; rfl
    rw [← e9]; exact hH
  exact W.vret hx hb hr (fun t ht hW => ⟨⟨(), rfl, trivial, z_to (B := fun H => zW dC dI ca ad (fX5_note M s0 a0) H) ht hF0⟩, hS.F ht⟩) hS.2.2 dX5_note_45

def fX6_copyFrom (M : zM) (N : zM) (i : Nat) (j : Nat) : zM :=
  let x1 : Int32 := N j 0
  let M2 : zM := zu M i 0 x1
  let x3 : Int32 := N j 1
  let M4 : zM := zu M2 i 1 x3
  let x5 : Int32 := N j 2
  let M6 : zM := zu M4 i 2 x5
  let x7 : Int32 := N j 3
  let M8 : zM := zu M6 i 3 x7
  M8
set_option maxHeartbeats 4000000 in
set_option maxRecDepth 100000 in
theorem m_X6_copyFrom (l : Launch) (dC : Nat → ClassId) (dI : Nat → Nat → Nat) (ca : Nat → ClassId) (ad : Nat → Nat) (hI : z_I zd ad) (ad2 : Nat → Nat) (hI2 : z_I zd ad2) (hX : ∀ i j, zk i < 200 → zk j < 200 → ad i ≠ ad2 j) (M : zM) (N : zM) (i : Nat) (h_i : zk i = 6) (j : Nat) (h_j : zk j = 6) : Met l yX6_copyFrom wsX6_copyFrom ({ frames := 0, cells := 0, slots := 0, locals := 0 }) (z_Pc (dC, dI) vwCl (zt ca) zw_nest [.ref (ad i), .ref (ad2 j)] (fun H => zW dC dI ca ad M H ∧ zW dC dI ca ad2 N H)) (z_Qv (fun H => zW dC dI ca ad (fX6_copyFrom M N i j) H ∧ zW dC dI ca ad2 N H) (z_A zd ad)) 0 0 (z_A zd ad) := by
  refine Met.ofW (cc := cX6_copyFrom) (maxL := 2) (ret := none) (by decide) rfl ?_
  intro p e s m args below meth c s₁ B9 hml hv
  obtain ⟨rfl, ⟨hH, hG⟩, hK, hN⟩ := hv
  have hx := B9.exec
  have hb := B9.bytes
  have hr := B9.returns
  have hts := atoms_spec (ws := wsX6_copyFrom) B9.pre
  have hown : s.vm.findClass RX6 = some m.cls := findClass_of_methodNamed B9.named
  have hlocks := B9.notSynchronized
  have hS : va_S (z_A zd ad) s.heap s.heap [] := va_S.rf
  have hH : zW dC dI ca ad M s.heap := hH
  have hG : zW dC dI ca ad2 N s.heap := hG
  have hinX6 : ∀ w ∈ u_ws RX6 TX6 4, w ∈ wsX6_copyFrom := by decide +kernel
  have hl := lv_entry ([.ref (ad i), .ref (ad2 j)]) (n := 2) (Nat.le_of_ble_eq_true rfl)
  rw [lg_entry_eq]
  generalize (lg_sl ([.ref (ad i), .ref (ad2 j)]) ++ List.replicate (2 - (lg_sl ([.ref (ad i), .ref (ad2 j)])).length) Slot.unset).toArray = ls at hl ⊢
  have hl : lv_has ls 2 [(0, .ref (ad i)), (1, .ref (ad2 j))] := hl
  refine lv_aload_n hx hb dX6_copyFrom_0 rfl (lv_at hl 0 rfl) ?_
  refine lv_aload_n hx hb dX6_copyFrom_1 rfl (lv_at hl 1 rfl) ?_
  refine z_gi (D := (dC, dI)) (cl := vwCl) (C := RX6) (T := TX6) (N := 4) (ci := 6) (k := 0) hx hb hts hinX6 hown hK hG h_j (by decide) rfl (by decide) rfl (hts (.fieldLink RX6 7 "Steamfield$Water" "mass" "I") (by decide +kernel)) (fun _ h9 => h9) dX6_copyFrom_2 ?_
  refine lv_topi (fun x1 ex1 => ?_)
  refine zp_i (D := (dC, dI)) (cl := vwCl) (C := RX6) (T := TX6) (N := 4) (ci := 6) (k := 0) (ty := .int) hx hb hts hinX6 tyX6 tyX6_ok nmX6 hown hK hH hI hS (fun _ h => h) h_i (by decide) rfl (by decide) rfl (hts (.fieldLink RX6 7 "Steamfield$Water" "mass" "I") (by decide +kernel)) (fun _ h9 => h9) rfl (by decide +kernel) rfl rfl dX6_copyFrom_5 (fun H locs hH oq hS => ?_)
  have hG := zW_u hG oq hX (zk_lt h_i (by decide))
  obtain ⟨M2, hM2⟩ : ∃ z : zM, z = zu M i 0 x1 := ⟨_, rfl⟩
  rw [← hM2] at hH
  refine lv_aload_n hx hb dX6_copyFrom_8 rfl (lv_at hl 0 rfl) ?_
  refine lv_aload_n hx hb dX6_copyFrom_9 rfl (lv_at hl 1 rfl) ?_
  refine z_gi (D := (dC, dI)) (cl := vwCl) (C := RX6) (T := TX6) (N := 4) (ci := 6) (k := 1) hx hb hts hinX6 hown hK hG h_j (by decide) rfl (by decide) rfl (hts (.fieldLink RX6 13 "Steamfield$Water" "heat" "I") (by decide +kernel)) (fun _ h9 => h9) dX6_copyFrom_10 ?_
  refine lv_topi (fun x3 ex3 => ?_)
  refine zp_i (D := (dC, dI)) (cl := vwCl) (C := RX6) (T := TX6) (N := 4) (ci := 6) (k := 1) (ty := .int) hx hb hts hinX6 tyX6 tyX6_ok nmX6 hown hK hH hI hS (fun _ h => h) h_i (by decide) rfl (by decide) rfl (hts (.fieldLink RX6 13 "Steamfield$Water" "heat" "I") (by decide +kernel)) (fun _ h9 => h9) rfl (by decide +kernel) rfl rfl dX6_copyFrom_13 (fun H locs hH oq hS => ?_)
  have hG := zW_u hG oq hX (zk_lt h_i (by decide))
  obtain ⟨M4, hM4⟩ : ∃ z : zM, z = zu M2 i 1 x3 := ⟨_, rfl⟩
  rw [← hM4] at hH
  refine lv_aload_n hx hb dX6_copyFrom_16 rfl (lv_at hl 0 rfl) ?_
  refine lv_aload_n hx hb dX6_copyFrom_17 rfl (lv_at hl 1 rfl) ?_
  refine z_gi (D := (dC, dI)) (cl := vwCl) (C := RX6) (T := TX6) (N := 4) (ci := 6) (k := 2) hx hb hts hinX6 hown hK hG h_j (by decide) rfl (by decide) rfl (hts (.fieldLink RX6 16 "Steamfield$Water" "salt" "I") (by decide +kernel)) (fun _ h9 => h9) dX6_copyFrom_18 ?_
  refine lv_topi (fun x5 ex5 => ?_)
  refine zp_i (D := (dC, dI)) (cl := vwCl) (C := RX6) (T := TX6) (N := 4) (ci := 6) (k := 2) (ty := .int) hx hb hts hinX6 tyX6 tyX6_ok nmX6 hown hK hH hI hS (fun _ h => h) h_i (by decide) rfl (by decide) rfl (hts (.fieldLink RX6 16 "Steamfield$Water" "salt" "I") (by decide +kernel)) (fun _ h9 => h9) rfl (by decide +kernel) rfl rfl dX6_copyFrom_21 (fun H locs hH oq hS => ?_)
  have hG := zW_u hG oq hX (zk_lt h_i (by decide))
  obtain ⟨M6, hM6⟩ : ∃ z : zM, z = zu M4 i 2 x5 := ⟨_, rfl⟩
  rw [← hM6] at hH
  refine lv_aload_n hx hb dX6_copyFrom_24 rfl (lv_at hl 0 rfl) ?_
  refine lv_aload_n hx hb dX6_copyFrom_25 rfl (lv_at hl 1 rfl) ?_
  refine z_gi (D := (dC, dI)) (cl := vwCl) (C := RX6) (T := TX6) (N := 4) (ci := 6) (k := 3) hx hb hts hinX6 hown hK hG h_j (by decide) rfl (by decide) rfl (hts (.fieldLink RX6 19 "Steamfield$Water" "tracer" "I") (by decide +kernel)) (fun _ h9 => h9) dX6_copyFrom_26 ?_
  refine lv_topi (fun x7 ex7 => ?_)
  refine zp_i (D := (dC, dI)) (cl := vwCl) (C := RX6) (T := TX6) (N := 4) (ci := 6) (k := 3) (ty := .int) hx hb hts hinX6 tyX6 tyX6_ok nmX6 hown hK hH hI hS (fun _ h => h) h_i (by decide) rfl (by decide) rfl (hts (.fieldLink RX6 19 "Steamfield$Water" "tracer" "I") (by decide +kernel)) (fun _ h9 => h9) rfl (by decide +kernel) rfl rfl dX6_copyFrom_29 (fun H locs hH oq hS => ?_)
  have hG := zW_u hG oq hX (zk_lt h_i (by decide))
  obtain ⟨M8, hM8⟩ : ∃ z : zM, z = zu M6 i 3 x7 := ⟨_, rfl⟩
  rw [← hM8] at hH
  have hF0 : zW dC dI ca ad (fX6_copyFrom M N i j) H := by
    have e9 : M8 = (fX6_copyFrom M N i j) := by subst hM8; subst ex7; subst hM6; subst ex5; subst hM4; subst ex3; subst hM2; subst ex1; rfl
    rw [← e9]; exact hH
  exact W.vret hx hb hr (fun t ht hW => ⟨⟨(), rfl, trivial, z_to (B := fun H => zW dC dI ca ad (fX6_copyFrom M N i j) H ∧ zW dC dI ca ad2 N H) ht ⟨hF0, hG⟩⟩, hS.F ht⟩) hS.2.2 dX6_copyFrom_32

def fX0_copyFrom (M : zM) (N : zM) (b : Nat) (b2 : Nat) : zM :=
  let M1 : zM := fX6_copyFrom M N (30 + b) (30 + b2)
  let x2 : Int32 := N (20 + b2) 1
  let M3 : zM := zu M1 (20 + b) 1 x2
  let x4 : Int32 := N (20 + b2) 2
  let M5 : zM := zu M3 (20 + b) 2 x4
  M5
set_option maxHeartbeats 4000000 in
set_option maxRecDepth 100000 in
theorem m_X0_copyFrom (l : Launch) (dC : Nat → ClassId) (dI : Nat → Nat → Nat) (ca : Nat → ClassId) (ad : Nat → Nat) (hI : z_I zd ad) (ad2 : Nat → Nat) (hI2 : z_I zd ad2) (hX : ∀ i j, zk i < 200 → zk j < 200 → ad i ≠ ad2 j) (M : zM) (N : zM) (b : Nat) (h_b : b < 8) (b2 : Nat) (h_b2 : b2 < 8) : Met l yX0_copyFrom wsX0_copyFrom ({ frames := 1, cells := 0, slots := 0, locals := 21 }) (z_Pc (dC, dI) vwCl (zt ca) zw_nest [.ref (ad (20 + b)), .ref (ad2 (20 + b2))] (fun H => zW dC dI ca ad M H ∧ zW dC dI ca ad2 N H)) (z_Qv (fun H => zW dC dI ca ad (fX0_copyFrom M N b b2) H ∧ zW dC dI ca ad2 N H) (z_A zd ad)) 0 0 (z_A zd ad) := by
  refine Met.ofW (cc := cX0_copyFrom) (maxL := 2) (ret := none) (by decide) rfl ?_
  intro p e s m args below meth c s₁ B9 hml hv
  obtain ⟨rfl, ⟨hH, hG⟩, hK, hN⟩ := hv
  have hx := B9.exec
  have hb := B9.bytes
  have hr := B9.returns
  have hts := atoms_spec (ws := wsX0_copyFrom) B9.pre
  have hown : s.vm.findClass RX0 = some m.cls := findClass_of_methodNamed B9.named
  have hlocks := B9.notSynchronized
  have hS : va_S (z_A zd ad) s.heap s.heap [] := va_S.rf
  have hH : zW dC dI ca ad M s.heap := hH
  have hG : zW dC dI ca ad2 N s.heap := hG
  have hinX0 : ∀ w ∈ u_ws RX0 TX0 3, w ∈ wsX0_copyFrom := by decide +kernel
  have hl := lv_entry ([.ref (ad (20 + b)), .ref (ad2 (20 + b2))]) (n := 2) (Nat.le_of_ble_eq_true rfl)
  rw [lg_entry_eq]
  generalize (lg_sl ([.ref (ad (20 + b)), .ref (ad2 (20 + b2))]) ++ List.replicate (2 - (lg_sl ([.ref (ad (20 + b)), .ref (ad2 (20 + b2))])).length) Slot.unset).toArray = ls at hl ⊢
  have hl : lv_has ls 2 [(0, .ref (ad (20 + b))), (1, .ref (ad2 (20 + b2)))] := hl
  refine lv_aload_n hx hb dX0_copyFrom_0 rfl (lv_at hl 0 rfl) ?_
  refine z_gr (D := (dC, dI)) (cl := vwCl) (C := RX0) (T := TX0) (N := 3) (ci := 0) (k := 0) hx hb hts hinX0 hown hK hH (zk_b h_b) (by decide) rfl (by decide) rfl (zr_b h_b) (hts (.fieldLink RX0 10 "Steamfield$Block" "water" "LSteamfield$Water;") (by decide +kernel)) (fun _ h9 => h9) dX0_copyFrom_1 ?_
  refine lv_aload_n hx hb dX0_copyFrom_4 rfl (lv_at hl 1 rfl) ?_
  refine z_gr (D := (dC, dI)) (cl := vwCl) (C := RX0) (T := TX0) (N := 3) (ci := 0) (k := 0) hx hb hts hinX0 hown hK hG (zk_b h_b2) (by decide) rfl (by decide) rfl (zr_b h_b2) (hts (.fieldLink RX0 10 "Steamfield$Block" "water" "LSteamfield$Water;") (by decide +kernel)) (fun _ h9 => h9) dX0_copyFrom_5 ?_
  refine z_cVv (D := (dC, dI)) (cl := vwCl) (tys := zt ca) (nw := zw_nest) (C := RX6) (As := [.ref (ad2 (30 + b2))]) (rest := []) ⟨hx, hb, hml, hown, hts⟩ (m_X6_copyFrom l dC dI ca ad hI ad2 hI2 hX M N (30 + b) (zk_w h_b) (30 + b2) (zk_w h_b2)) (cwV 1 hts gX0_copyFrom_X6_copyFrom rfl rfl rfl (by decide +kernel) ⟨Nat.le_of_ble_eq_true rfl, Nat.le_of_ble_eq_true rfl⟩) (z_recv (ci := 6) (i := (30 + b)) hK hH (zk_w h_b) (by decide) rfl) ⟨hH, hG⟩ hK hN zw_nest_ok rfl hl.1 rfl (Nat.le_of_ble_eq_true rfl) dX0_copyFrom_8 ⟨Nat.le_refl _, Nat.le_refl _⟩ hS (fun _ h => h) (fun H locs hB1 oq1 hz1 hS => ?_)
  obtain ⟨hH, hG⟩ := hB1
  obtain ⟨M1, hM1⟩ : ∃ z : zM, z = fX6_copyFrom M N (30 + b) (30 + b2) := ⟨_, rfl⟩
  have hH : z_H (dC, dI) vwCl zf ca zd ad M1 H := by rw [hM1]; exact hH
  refine lv_aload_n hx hb dX0_copyFrom_11 rfl (lv_at hl 0 rfl) ?_
  refine lv_aload_n hx hb dX0_copyFrom_12 rfl (lv_at hl 1 rfl) ?_
  refine z_gi (D := (dC, dI)) (cl := vwCl) (C := RX0) (T := TX0) (N := 3) (ci := 0) (k := 1) hx hb hts hinX0 hown hK hG (zk_b h_b2) (by decide) rfl (by decide) rfl (hts (.fieldLink RX0 20 "Steamfield$Block" "volume" "I") (by decide +kernel)) (fun _ h9 => h9) dX0_copyFrom_13 ?_
  refine lv_topi (fun x2 ex2 => ?_)
  refine zp_i (D := (dC, dI)) (cl := vwCl) (C := RX0) (T := TX0) (N := 3) (ci := 0) (k := 1) (ty := .int) hx hb hts hinX0 tyX0 tyX0_ok nmX0 hown hK hH hI hS (fun _ h => h) (zk_b h_b) (by decide) rfl (by decide) rfl (hts (.fieldLink RX0 20 "Steamfield$Block" "volume" "I") (by decide +kernel)) (fun _ h9 => h9) rfl (by decide +kernel) rfl rfl dX0_copyFrom_16 (fun H locs hH oq hS => ?_)
  have hG := zW_u hG oq hX (zk_lt (zk_b h_b) (by decide))
  obtain ⟨M3, hM3⟩ : ∃ z : zM, z = zu M1 (20 + b) 1 x2 := ⟨_, rfl⟩
  rw [← hM3] at hH
  refine lv_aload_n hx hb dX0_copyFrom_19 rfl (lv_at hl 0 rfl) ?_
  refine lv_aload_n hx hb dX0_copyFrom_20 rfl (lv_at hl 1 rfl) ?_
  refine z_gi (D := (dC, dI)) (cl := vwCl) (C := RX0) (T := TX0) (N := 3) (ci := 0) (k := 2) hx hb hts hinX0 hown hK hG (zk_b h_b2) (by decide) rfl (by decide) rfl (hts (.fieldLink RX0 24 "Steamfield$Block" "owner" "I") (by decide +kernel)) (fun _ h9 => h9) dX0_copyFrom_21 ?_
  refine lv_topi (fun x4 ex4 => ?_)
  refine zp_i (D := (dC, dI)) (cl := vwCl) (C := RX0) (T := TX0) (N := 3) (ci := 0) (k := 2) (ty := .int) hx hb hts hinX0 tyX0 tyX0_ok nmX0 hown hK hH hI hS (fun _ h => h) (zk_b h_b) (by decide) rfl (by decide) rfl (hts (.fieldLink RX0 24 "Steamfield$Block" "owner" "I") (by decide +kernel)) (fun _ h9 => h9) rfl (by decide +kernel) rfl rfl dX0_copyFrom_24 (fun H locs hH oq hS => ?_)
  have hG := zW_u hG oq hX (zk_lt (zk_b h_b) (by decide))
  obtain ⟨M5, hM5⟩ : ∃ z : zM, z = zu M3 (20 + b) 2 x4 := ⟨_, rfl⟩
  rw [← hM5] at hH
  have hF0 : zW dC dI ca ad (fX0_copyFrom M N b b2) H := by
    have e9 : M5 = (fX0_copyFrom M N b b2) := by subst hM5; subst ex4; subst hM3; subst ex2; subst hM1; rfl
    rw [← e9]; exact hH
  exact W.vret hx hb hr (fun t ht hW => ⟨⟨(), rfl, trivial, z_to (B := fun H => zW dC dI ca ad (fX0_copyFrom M N b b2) H ∧ zW dC dI ca ad2 N H) ht ⟨hF0, hG⟩⟩, hS.F ht⟩) hS.2.2 dX0_copyFrom_27

def fX2_copyFrom (M : zM) (N : zM) (f : Nat) (f2 : Nat) : zM :=
  let x1 : Int32 := N (40 + f2) 0
  let M2 : zM := zu M (40 + f) 0 x1
  let x3 : Int32 := N (40 + f2) 1
  let M4 : zM := zu M2 (40 + f) 1 x3
  let x5 : Int32 := N (40 + f2) 2
  let M6 : zM := zu M4 (40 + f) 2 x5
  let x7 : Int32 := N (40 + f2) 3
  let M8 : zM := zu M6 (40 + f) 3 x7
  M8
set_option maxHeartbeats 4000000 in
set_option maxRecDepth 100000 in
theorem m_X2_copyFrom (l : Launch) (dC : Nat → ClassId) (dI : Nat → Nat → Nat) (ca : Nat → ClassId) (ad : Nat → Nat) (hI : z_I zd ad) (ad2 : Nat → Nat) (hI2 : z_I zd ad2) (hX : ∀ i j, zk i < 200 → zk j < 200 → ad i ≠ ad2 j) (M : zM) (N : zM) (f : Nat) (h_f : f < 12) (f2 : Nat) (h_f2 : f2 < 12) : Met l yX2_copyFrom wsX2_copyFrom ({ frames := 0, cells := 0, slots := 0, locals := 0 }) (z_Pc (dC, dI) vwCl (zt ca) zw_nest [.ref (ad (40 + f)), .ref (ad2 (40 + f2))] (fun H => zW dC dI ca ad M H ∧ zW dC dI ca ad2 N H)) (z_Qv (fun H => zW dC dI ca ad (fX2_copyFrom M N f f2) H ∧ zW dC dI ca ad2 N H) (z_A zd ad)) 0 0 (z_A zd ad) := by
  refine Met.ofW (cc := cX2_copyFrom) (maxL := 2) (ret := none) (by decide) rfl ?_
  intro p e s m args below meth c s₁ B9 hml hv
  obtain ⟨rfl, ⟨hH, hG⟩, hK, hN⟩ := hv
  have hx := B9.exec
  have hb := B9.bytes
  have hr := B9.returns
  have hts := atoms_spec (ws := wsX2_copyFrom) B9.pre
  have hown : s.vm.findClass RX2 = some m.cls := findClass_of_methodNamed B9.named
  have hlocks := B9.notSynchronized
  have hS : va_S (z_A zd ad) s.heap s.heap [] := va_S.rf
  have hH : zW dC dI ca ad M s.heap := hH
  have hG : zW dC dI ca ad2 N s.heap := hG
  have hinX2 : ∀ w ∈ u_ws RX2 TX2 4, w ∈ wsX2_copyFrom := by decide +kernel
  have hl := lv_entry ([.ref (ad (40 + f)), .ref (ad2 (40 + f2))]) (n := 2) (Nat.le_of_ble_eq_true rfl)
  rw [lg_entry_eq]
  generalize (lg_sl ([.ref (ad (40 + f)), .ref (ad2 (40 + f2))]) ++ List.replicate (2 - (lg_sl ([.ref (ad (40 + f)), .ref (ad2 (40 + f2))])).length) Slot.unset).toArray = ls at hl ⊢
  have hl : lv_has ls 2 [(0, .ref (ad (40 + f))), (1, .ref (ad2 (40 + f2)))] := hl
  refine lv_aload_n hx hb dX2_copyFrom_0 rfl (lv_at hl 0 rfl) ?_
  refine lv_aload_n hx hb dX2_copyFrom_1 rfl (lv_at hl 1 rfl) ?_
  refine z_gi (D := (dC, dI)) (cl := vwCl) (C := RX2) (T := TX2) (N := 4) (ci := 2) (k := 0) hx hb hts hinX2 hown hK hG (zk_f h_f2) (by decide) rfl (by decide) rfl (hts (.fieldLink RX2 7 "Steamfield$Face" "one" "I") (by decide +kernel)) (fun _ h9 => h9) dX2_copyFrom_2 ?_
  refine lv_topi (fun x1 ex1 => ?_)
  refine zp_i (D := (dC, dI)) (cl := vwCl) (C := RX2) (T := TX2) (N := 4) (ci := 2) (k := 0) (ty := .int) hx hb hts hinX2 tyX2 tyX2_ok nmX2 hown hK hH hI hS (fun _ h => h) (zk_f h_f) (by decide) rfl (by decide) rfl (hts (.fieldLink RX2 7 "Steamfield$Face" "one" "I") (by decide +kernel)) (fun _ h9 => h9) rfl (by decide +kernel) rfl rfl dX2_copyFrom_5 (fun H locs hH oq hS => ?_)
  have hG := zW_u hG oq hX (zk_lt (zk_f h_f) (by decide))
  obtain ⟨M2, hM2⟩ : ∃ z : zM, z = zu M (40 + f) 0 x1 := ⟨_, rfl⟩
  rw [← hM2] at hH
  refine lv_aload_n hx hb dX2_copyFrom_8 rfl (lv_at hl 0 rfl) ?_
  refine lv_aload_n hx hb dX2_copyFrom_9 rfl (lv_at hl 1 rfl) ?_
  refine z_gi (D := (dC, dI)) (cl := vwCl) (C := RX2) (T := TX2) (N := 4) (ci := 2) (k := 1) hx hb hts hinX2 hown hK hG (zk_f h_f2) (by decide) rfl (by decide) rfl (hts (.fieldLink RX2 13 "Steamfield$Face" "other" "I") (by decide +kernel)) (fun _ h9 => h9) dX2_copyFrom_10 ?_
  refine lv_topi (fun x3 ex3 => ?_)
  refine zp_i (D := (dC, dI)) (cl := vwCl) (C := RX2) (T := TX2) (N := 4) (ci := 2) (k := 1) (ty := .int) hx hb hts hinX2 tyX2 tyX2_ok nmX2 hown hK hH hI hS (fun _ h => h) (zk_f h_f) (by decide) rfl (by decide) rfl (hts (.fieldLink RX2 13 "Steamfield$Face" "other" "I") (by decide +kernel)) (fun _ h9 => h9) rfl (by decide +kernel) rfl rfl dX2_copyFrom_13 (fun H locs hH oq hS => ?_)
  have hG := zW_u hG oq hX (zk_lt (zk_f h_f) (by decide))
  obtain ⟨M4, hM4⟩ : ∃ z : zM, z = zu M2 (40 + f) 1 x3 := ⟨_, rfl⟩
  rw [← hM4] at hH
  refine lv_aload_n hx hb dX2_copyFrom_16 rfl (lv_at hl 0 rfl) ?_
  refine lv_aload_n hx hb dX2_copyFrom_17 rfl (lv_at hl 1 rfl) ?_
  refine z_gi (D := (dC, dI)) (cl := vwCl) (C := RX2) (T := TX2) (N := 4) (ci := 2) (k := 2) hx hb hts hinX2 hown hK hG (zk_f h_f2) (by decide) rfl (by decide) rfl (hts (.fieldLink RX2 16 "Steamfield$Face" "open" "I") (by decide +kernel)) (fun _ h9 => h9) dX2_copyFrom_18 ?_
  refine lv_topi (fun x5 ex5 => ?_)
  refine zp_i (D := (dC, dI)) (cl := vwCl) (C := RX2) (T := TX2) (N := 4) (ci := 2) (k := 2) (ty := .int) hx hb hts hinX2 tyX2 tyX2_ok nmX2 hown hK hH hI hS (fun _ h => h) (zk_f h_f) (by decide) rfl (by decide) rfl (hts (.fieldLink RX2 16 "Steamfield$Face" "open" "I") (by decide +kernel)) (fun _ h9 => h9) rfl (by decide +kernel) rfl rfl dX2_copyFrom_21 (fun H locs hH oq hS => ?_)
  have hG := zW_u hG oq hX (zk_lt (zk_f h_f) (by decide))
  obtain ⟨M6, hM6⟩ : ∃ z : zM, z = zu M4 (40 + f) 2 x5 := ⟨_, rfl⟩
  rw [← hM6] at hH
  refine lv_aload_n hx hb dX2_copyFrom_24 rfl (lv_at hl 0 rfl) ?_
  refine lv_aload_n hx hb dX2_copyFrom_25 rfl (lv_at hl 1 rfl) ?_
  refine z_gi (D := (dC, dI)) (cl := vwCl) (C := RX2) (T := TX2) (N := 4) (ci := 2) (k := 3) hx hb hts hinX2 hown hK hG (zk_f h_f2) (by decide) rfl (by decide) rfl (hts (.fieldLink RX2 19 "Steamfield$Face" "flow" "I") (by decide +kernel)) (fun _ h9 => h9) dX2_copyFrom_26 ?_
  refine lv_topi (fun x7 ex7 => ?_)
  refine zp_i (D := (dC, dI)) (cl := vwCl) (C := RX2) (T := TX2) (N := 4) (ci := 2) (k := 3) (ty := .int) hx hb hts hinX2 tyX2 tyX2_ok nmX2 hown hK hH hI hS (fun _ h => h) (zk_f h_f) (by decide) rfl (by decide) rfl (hts (.fieldLink RX2 19 "Steamfield$Face" "flow" "I") (by decide +kernel)) (fun _ h9 => h9) rfl (by decide +kernel) rfl rfl dX2_copyFrom_29 (fun H locs hH oq hS => ?_)
  have hG := zW_u hG oq hX (zk_lt (zk_f h_f) (by decide))
  obtain ⟨M8, hM8⟩ : ∃ z : zM, z = zu M6 (40 + f) 3 x7 := ⟨_, rfl⟩
  rw [← hM8] at hH
  have hF0 : zW dC dI ca ad (fX2_copyFrom M N f f2) H := by
    have e9 : M8 = (fX2_copyFrom M N f f2) := by subst hM8; subst ex7; subst hM6; subst ex5; subst hM4; subst ex3; subst hM2; subst ex1; rfl
    rw [← e9]; exact hH
  exact W.vret hx hb hr (fun t ht hW => ⟨⟨(), rfl, trivial, z_to (B := fun H => zW dC dI ca ad (fX2_copyFrom M N f f2) H ∧ zW dC dI ca ad2 N H) ht ⟨hF0, hG⟩⟩, hS.F ht⟩) hS.2.2 dX2_copyFrom_32

def fX7_copyFrom (M : zM) (N : zM) (v : Nat) (v2 : Nat) : zM :=
  let x1 : Int32 := N (60 + v2) 0
  let M2 : zM := zu M (60 + v) 0 x1
  let x3 : Int32 := N (60 + v2) 1
  let M4 : zM := zu M2 (60 + v) 1 x3
  let x5 : Int32 := N (60 + v2) 2
  let M6 : zM := zu M4 (60 + v) 2 x5
  let x7 : Int32 := N (60 + v2) 3
  let M8 : zM := zu M6 (60 + v) 3 x7
  let x9 : Int32 := N (60 + v2) 4
  let M10 : zM := zu M8 (60 + v) 4 x9
  let x11 : Int32 := N (60 + v2) 5
  let M12 : zM := zu M10 (60 + v) 5 x11
  let x13 : Int32 := N (60 + v2) 6
  let M14 : zM := zu M12 (60 + v) 6 x13
  let x15 : Int32 := N (60 + v2) 7
  let M16 : zM := zu M14 (60 + v) 7 x15
  let x17 : Int32 := N (60 + v2) 8
  let M18 : zM := zu M16 (60 + v) 8 x17
  M18
set_option maxHeartbeats 4000000 in
set_option maxRecDepth 100000 in
theorem m_X7_copyFrom (l : Launch) (dC : Nat → ClassId) (dI : Nat → Nat → Nat) (ca : Nat → ClassId) (ad : Nat → Nat) (hI : z_I zd ad) (ad2 : Nat → Nat) (hI2 : z_I zd ad2) (hX : ∀ i j, zk i < 200 → zk j < 200 → ad i ≠ ad2 j) (M : zM) (N : zM) (v : Nat) (h_v : v < 6) (v2 : Nat) (h_v2 : v2 < 6) (h_inj : N (60 + v2) 1 = 0 ∨ N (60 + v2) 1 = 1) : Met l yX7_copyFrom wsX7_copyFrom ({ frames := 0, cells := 0, slots := 0, locals := 0 }) (z_Pc (dC, dI) vwCl (zt ca) zw_nest [.ref (ad (60 + v)), .ref (ad2 (60 + v2))] (fun H => zW dC dI ca ad M H ∧ zW dC dI ca ad2 N H)) (z_Qv (fun H => zW dC dI ca ad (fX7_copyFrom M N v v2) H ∧ zW dC dI ca ad2 N H) (z_A zd ad)) 0 0 (z_A zd ad) := by
  refine Met.ofW (cc := cX7_copyFrom) (maxL := 2) (ret := none) (by decide) rfl ?_
  intro p e s m args below meth c s₁ B9 hml hv
  obtain ⟨rfl, ⟨hH, hG⟩, hK, hN⟩ := hv
  have hx := B9.exec
  have hb := B9.bytes
  have hr := B9.returns
  have hts := atoms_spec (ws := wsX7_copyFrom) B9.pre
  have hown : s.vm.findClass RX7 = some m.cls := findClass_of_methodNamed B9.named
  have hlocks := B9.notSynchronized
  have hS : va_S (z_A zd ad) s.heap s.heap [] := va_S.rf
  have hH : zW dC dI ca ad M s.heap := hH
  have hG : zW dC dI ca ad2 N s.heap := hG
  have hinX7 : ∀ w ∈ u_ws RX7 TX7 9, w ∈ wsX7_copyFrom := by decide +kernel
  have hl := lv_entry ([.ref (ad (60 + v)), .ref (ad2 (60 + v2))]) (n := 2) (Nat.le_of_ble_eq_true rfl)
  rw [lg_entry_eq]
  generalize (lg_sl ([.ref (ad (60 + v)), .ref (ad2 (60 + v2))]) ++ List.replicate (2 - (lg_sl ([.ref (ad (60 + v)), .ref (ad2 (60 + v2))])).length) Slot.unset).toArray = ls at hl ⊢
  have hl : lv_has ls 2 [(0, .ref (ad (60 + v))), (1, .ref (ad2 (60 + v2)))] := hl
  refine lv_aload_n hx hb dX7_copyFrom_0 rfl (lv_at hl 0 rfl) ?_
  refine lv_aload_n hx hb dX7_copyFrom_1 rfl (lv_at hl 1 rfl) ?_
  refine z_gi (D := (dC, dI)) (cl := vwCl) (C := RX7) (T := TX7) (N := 9) (ci := 7) (k := 0) hx hb hts hinX7 hown hK hG (zk_v h_v2) (by decide) rfl (by decide) rfl (hts (.fieldLink RX7 9 "Steamfield$Well" "block" "I") (by decide +kernel)) (fun _ h9 => h9) dX7_copyFrom_2 ?_
  refine lv_topi (fun x1 ex1 => ?_)
  refine zp_i (D := (dC, dI)) (cl := vwCl) (C := RX7) (T := TX7) (N := 9) (ci := 7) (k := 0) (ty := .int) hx hb hts hinX7 tyX7 tyX7_ok nmX7 hown hK hH hI hS (fun _ h => h) (zk_v h_v) (by decide) rfl (by decide) rfl (hts (.fieldLink RX7 9 "Steamfield$Well" "block" "I") (by decide +kernel)) (fun _ h9 => h9) rfl (by decide +kernel) rfl rfl dX7_copyFrom_5 (fun H locs hH oq hS => ?_)
  have hG := zW_u hG oq hX (zk_lt (zk_v h_v) (by decide))
  obtain ⟨M2, hM2⟩ : ∃ z : zM, z = zu M (60 + v) 0 x1 := ⟨_, rfl⟩
  rw [← hM2] at hH
  refine lv_aload_n hx hb dX7_copyFrom_8 rfl (lv_at hl 0 rfl) ?_
  refine lv_aload_n hx hb dX7_copyFrom_9 rfl (lv_at hl 1 rfl) ?_
  refine z_gi (D := (dC, dI)) (cl := vwCl) (C := RX7) (T := TX7) (N := 9) (ci := 7) (k := 1) hx hb hts hinX7 hown hK hG (zk_v h_v2) (by decide) rfl (by decide) rfl (hts (.fieldLink RX7 15 "Steamfield$Well" "isInjector" "Z") (by decide +kernel)) (fun _ h9 => h9) dX7_copyFrom_10 ?_
  refine lv_topi (fun x3 ex3 => ?_)
  refine zp_i (D := (dC, dI)) (cl := vwCl) (C := RX7) (T := TX7) (N := 9) (ci := 7) (k := 1) (ty := .boolean) hx hb hts hinX7 tyX7 tyX7_ok nmX7 hown hK hH hI hS (fun _ h => h) (zk_v h_v) (by decide) rfl (by decide) rfl (hts (.fieldLink RX7 15 "Steamfield$Well" "isInjector" "Z") (by decide +kernel)) (fun _ h9 => h9) rfl (by decide +kernel) (z_bn (by rw [ex3]; exact h_inj)) (z_bf (by rw [ex3]; exact h_inj)) dX7_copyFrom_13 (fun H locs hH oq hS => ?_)
  have hG := zW_u hG oq hX (zk_lt (zk_v h_v) (by decide))
  obtain ⟨M4, hM4⟩ : ∃ z : zM, z = zu M2 (60 + v) 1 x3 := ⟨_, rfl⟩
  rw [← hM4] at hH
  refine lv_aload_n hx hb dX7_copyFrom_16 rfl (lv_at hl 0 rfl) ?_
  refine lv_aload_n hx hb dX7_copyFrom_17 rfl (lv_at hl 1 rfl) ?_
  refine z_gi (D := (dC, dI)) (cl := vwCl) (C := RX7) (T := TX7) (N := 9) (ci := 7) (k := 2) hx hb hts hinX7 hown hK hG (zk_v h_v2) (by decide) rfl (by decide) rfl (hts (.fieldLink RX7 19 "Steamfield$Well" "valve" "I") (by decide +kernel)) (fun _ h9 => h9) dX7_copyFrom_18 ?_
  refine lv_topi (fun x5 ex5 => ?_)
  refine zp_i (D := (dC, dI)) (cl := vwCl) (C := RX7) (T := TX7) (N := 9) (ci := 7) (k := 2) (ty := .int) hx hb hts hinX7 tyX7 tyX7_ok nmX7 hown hK hH hI hS (fun _ h => h) (zk_v h_v) (by decide) rfl (by decide) rfl (hts (.fieldLink RX7 19 "Steamfield$Well" "valve" "I") (by decide +kernel)) (fun _ h9 => h9) rfl (by decide +kernel) rfl rfl dX7_copyFrom_21 (fun H locs hH oq hS => ?_)
  have hG := zW_u hG oq hX (zk_lt (zk_v h_v) (by decide))
  obtain ⟨M6, hM6⟩ : ∃ z : zM, z = zu M4 (60 + v) 2 x5 := ⟨_, rfl⟩
  rw [← hM6] at hH
  refine lv_aload_n hx hb dX7_copyFrom_24 rfl (lv_at hl 0 rfl) ?_
  refine lv_aload_n hx hb dX7_copyFrom_25 rfl (lv_at hl 1 rfl) ?_
  refine z_gi (D := (dC, dI)) (cl := vwCl) (C := RX7) (T := TX7) (N := 9) (ci := 7) (k := 3) hx hb hts hinX7 hown hK hG (zk_v h_v2) (by decide) rfl (by decide) rfl (hts (.fieldLink RX7 22 "Steamfield$Well" "scale" "I") (by decide +kernel)) (fun _ h9 => h9) dX7_copyFrom_26 ?_
  refine lv_topi (fun x7 ex7 => ?_)
  refine zp_i (D := (dC, dI)) (cl := vwCl) (C := RX7) (T := TX7) (N := 9) (ci := 7) (k := 3) (ty := .int) hx hb hts hinX7 tyX7 tyX7_ok nmX7 hown hK hH hI hS (fun _ h => h) (zk_v h_v) (by decide) rfl (by decide) rfl (hts (.fieldLink RX7 22 "Steamfield$Well" "scale" "I") (by decide +kernel)) (fun _ h9 => h9) rfl (by decide +kernel) rfl rfl dX7_copyFrom_29 (fun H locs hH oq hS => ?_)
  have hG := zW_u hG oq hX (zk_lt (zk_v h_v) (by decide))
  obtain ⟨M8, hM8⟩ : ∃ z : zM, z = zu M6 (60 + v) 3 x7 := ⟨_, rfl⟩
  rw [← hM8] at hH
  refine lv_aload_n hx hb dX7_copyFrom_32 rfl (lv_at hl 0 rfl) ?_
  refine lv_aload_n hx hb dX7_copyFrom_33 rfl (lv_at hl 1 rfl) ?_
  refine z_gi (D := (dC, dI)) (cl := vwCl) (C := RX7) (T := TX7) (N := 9) (ci := 7) (k := 4) hx hb hts hinX7 hown hK hG (zk_v h_v2) (by decide) rfl (by decide) rfl (hts (.fieldLink RX7 25 "Steamfield$Well" "crust" "I") (by decide +kernel)) (fun _ h9 => h9) dX7_copyFrom_34 ?_
  refine lv_topi (fun x9 ex9 => ?_)
  refine zp_i (D := (dC, dI)) (cl := vwCl) (C := RX7) (T := TX7) (N := 9) (ci := 7) (k := 4) (ty := .int) hx hb hts hinX7 tyX7 tyX7_ok nmX7 hown hK hH hI hS (fun _ h => h) (zk_v h_v) (by decide) rfl (by decide) rfl (hts (.fieldLink RX7 25 "Steamfield$Well" "crust" "I") (by decide +kernel)) (fun _ h9 => h9) rfl (by decide +kernel) rfl rfl dX7_copyFrom_37 (fun H locs hH oq hS => ?_)
  have hG := zW_u hG oq hX (zk_lt (zk_v h_v) (by decide))
  obtain ⟨M10, hM10⟩ : ∃ z : zM, z = zu M8 (60 + v) 4 x9 := ⟨_, rfl⟩
  rw [← hM10] at hH
  refine lv_aload_n hx hb dX7_copyFrom_40 rfl (lv_at hl 0 rfl) ?_
  refine lv_aload_n hx hb dX7_copyFrom_41 rfl (lv_at hl 1 rfl) ?_
  refine z_gi (D := (dC, dI)) (cl := vwCl) (C := RX7) (T := TX7) (N := 9) (ci := 7) (k := 5) hx hb hts hinX7 hown hK hG (zk_v h_v2) (by decide) rfl (by decide) rfl (hts (.fieldLink RX7 28 "Steamfield$Well" "flow" "I") (by decide +kernel)) (fun _ h9 => h9) dX7_copyFrom_42 ?_
  refine lv_topi (fun x11 ex11 => ?_)
  refine zp_i (D := (dC, dI)) (cl := vwCl) (C := RX7) (T := TX7) (N := 9) (ci := 7) (k := 5) (ty := .int) hx hb hts hinX7 tyX7 tyX7_ok nmX7 hown hK hH hI hS (fun _ h => h) (zk_v h_v) (by decide) rfl (by decide) rfl (hts (.fieldLink RX7 28 "Steamfield$Well" "flow" "I") (by decide +kernel)) (fun _ h9 => h9) rfl (by decide +kernel) rfl rfl dX7_copyFrom_45 (fun H locs hH oq hS => ?_)
  have hG := zW_u hG oq hX (zk_lt (zk_v h_v) (by decide))
  obtain ⟨M12, hM12⟩ : ∃ z : zM, z = zu M10 (60 + v) 5 x11 := ⟨_, rfl⟩
  rw [← hM12] at hH
  refine lv_aload_n hx hb dX7_copyFrom_48 rfl (lv_at hl 0 rfl) ?_
  refine lv_aload_n hx hb dX7_copyFrom_49 rfl (lv_at hl 1 rfl) ?_
  refine z_gi (D := (dC, dI)) (cl := vwCl) (C := RX7) (T := TX7) (N := 9) (ci := 7) (k := 6) hx hb hts hinX7 hown hK hG (zk_v h_v2) (by decide) rfl (by decide) rfl (hts (.fieldLink RX7 31 "Steamfield$Well" "steam" "I") (by decide +kernel)) (fun _ h9 => h9) dX7_copyFrom_50 ?_
  refine lv_topi (fun x13 ex13 => ?_)
  refine zp_i (D := (dC, dI)) (cl := vwCl) (C := RX7) (T := TX7) (N := 9) (ci := 7) (k := 6) (ty := .int) hx hb hts hinX7 tyX7 tyX7_ok nmX7 hown hK hH hI hS (fun _ h => h) (zk_v h_v) (by decide) rfl (by decide) rfl (hts (.fieldLink RX7 31 "Steamfield$Well" "steam" "I") (by decide +kernel)) (fun _ h9 => h9) rfl (by decide +kernel) rfl rfl dX7_copyFrom_53 (fun H locs hH oq hS => ?_)
  have hG := zW_u hG oq hX (zk_lt (zk_v h_v) (by decide))
  obtain ⟨M14, hM14⟩ : ∃ z : zM, z = zu M12 (60 + v) 6 x13 := ⟨_, rfl⟩
  rw [← hM14] at hH
  refine lv_aload_n hx hb dX7_copyFrom_56 rfl (lv_at hl 0 rfl) ?_
  refine lv_aload_n hx hb dX7_copyFrom_57 rfl (lv_at hl 1 rfl) ?_
  refine z_gi (D := (dC, dI)) (cl := vwCl) (C := RX7) (T := TX7) (N := 9) (ci := 7) (k := 7) hx hb hts hinX7 hown hK hG (zk_v h_v2) (by decide) rfl (by decide) rfl (hts (.fieldLink RX7 34 "Steamfield$Well" "tracer" "I") (by decide +kernel)) (fun _ h9 => h9) dX7_copyFrom_58 ?_
  refine lv_topi (fun x15 ex15 => ?_)
  refine zp_i (D := (dC, dI)) (cl := vwCl) (C := RX7) (T := TX7) (N := 9) (ci := 7) (k := 7) (ty := .int) hx hb hts hinX7 tyX7 tyX7_ok nmX7 hown hK hH hI hS (fun _ h => h) (zk_v h_v) (by decide) rfl (by decide) rfl (hts (.fieldLink RX7 34 "Steamfield$Well" "tracer" "I") (by decide +kernel)) (fun _ h9 => h9) rfl (by decide +kernel) rfl rfl dX7_copyFrom_61 (fun H locs hH oq hS => ?_)
  have hG := zW_u hG oq hX (zk_lt (zk_v h_v) (by decide))
  obtain ⟨M16, hM16⟩ : ∃ z : zM, z = zu M14 (60 + v) 7 x15 := ⟨_, rfl⟩
  rw [← hM16] at hH
  refine lv_aload_n hx hb dX7_copyFrom_64 rfl (lv_at hl 0 rfl) ?_
  refine lv_aload_n hx hb dX7_copyFrom_65 rfl (lv_at hl 1 rfl) ?_
  refine z_gi (D := (dC, dI)) (cl := vwCl) (C := RX7) (T := TX7) (N := 9) (ci := 7) (k := 8) hx hb hts hinX7 hown hK hG (zk_v h_v2) (by decide) rfl (by decide) rfl (hts (.fieldLink RX7 37 "Steamfield$Well" "flowEver" "I") (by decide +kernel)) (fun _ h9 => h9) dX7_copyFrom_66 ?_
  refine lv_topi (fun x17 ex17 => ?_)
  refine zp_i (D := (dC, dI)) (cl := vwCl) (C := RX7) (T := TX7) (N := 9) (ci := 7) (k := 8) (ty := .int) hx hb hts hinX7 tyX7 tyX7_ok nmX7 hown hK hH hI hS (fun _ h => h) (zk_v h_v) (by decide) rfl (by decide) rfl (hts (.fieldLink RX7 37 "Steamfield$Well" "flowEver" "I") (by decide +kernel)) (fun _ h9 => h9) rfl (by decide +kernel) rfl rfl dX7_copyFrom_69 (fun H locs hH oq hS => ?_)
  have hG := zW_u hG oq hX (zk_lt (zk_v h_v) (by decide))
  obtain ⟨M18, hM18⟩ : ∃ z : zM, z = zu M16 (60 + v) 8 x17 := ⟨_, rfl⟩
  rw [← hM18] at hH
  have hF0 : zW dC dI ca ad (fX7_copyFrom M N v v2) H := by
    have e9 : M18 = (fX7_copyFrom M N v v2) := by subst hM18; subst ex17; subst hM16; subst ex15; subst hM14; subst ex13; subst hM12; subst ex11; subst hM10; subst ex9; subst hM8; subst ex7; subst hM6; subst ex5; subst hM4; subst ex3; subst hM2; subst ex1; rfl
    rw [← e9]; exact hH
  exact W.vret hx hb hr (fun t ht hW => ⟨⟨(), rfl, trivial, z_to (B := fun H => zW dC dI ca ad (fX7_copyFrom M N v v2) H ∧ zW dC dI ca ad2 N H) ht ⟨hF0, hG⟩⟩, hS.F ht⟩) hS.2.2 dX7_copyFrom_72

def fX5_copyFrom (M : zM) (N : zM) (s0 : Nat) (s2 : Nat) : zM :=
  let x1 : Int32 := N (70 + s2) 0
  let M2 : zM := zu M (70 + s0) 0 x1
  let x3 : Int32 := N (70 + s2) 1
  let M4 : zM := zu M2 (70 + s0) 1 x3
  let x5 : Int32 := N (70 + s2) 2
  let M6 : zM := zu M4 (70 + s0) 2 x5
  let x7 : Int32 := N (70 + s2) 3
  let M8 : zM := zu M6 (70 + s0) 3 x7
  let x9 : Int32 := N (70 + s2) 4
  let M10 : zM := zu M8 (70 + s0) 4 x9
  let x11 : Int32 := N (70 + s2) 5
  let M12 : zM := zu M10 (70 + s0) 5 x11
  let x13 : Int32 := N (70 + s2) 6
  let M14 : zM := zu M12 (70 + s0) 6 x13
  M14
set_option maxHeartbeats 4000000 in
set_option maxRecDepth 100000 in
theorem m_X5_copyFrom (l : Launch) (dC : Nat → ClassId) (dI : Nat → Nat → Nat) (ca : Nat → ClassId) (ad : Nat → Nat) (hI : z_I zd ad) (ad2 : Nat → Nat) (hI2 : z_I zd ad2) (hX : ∀ i j, zk i < 200 → zk j < 200 → ad i ≠ ad2 j) (M : zM) (N : zM) (s0 : Nat) (h_s0 : s0 < 3) (s2 : Nat) (h_s2 : s2 < 3) : Met l yX5_copyFrom wsX5_copyFrom ({ frames := 0, cells := 0, slots := 0, locals := 0 }) (z_Pc (dC, dI) vwCl (zt ca) zw_nest [.ref (ad (70 + s0)), .ref (ad2 (70 + s2))] (fun H => zW dC dI ca ad M H ∧ zW dC dI ca ad2 N H)) (z_Qv (fun H => zW dC dI ca ad (fX5_copyFrom M N s0 s2) H ∧ zW dC dI ca ad2 N H) (z_A zd ad)) 0 0 (z_A zd ad) := by
  refine Met.ofW (cc := cX5_copyFrom) (maxL := 2) (ret := none) (by decide) rfl ?_
  intro p e s m args below meth c s₁ B9 hml hv
  obtain ⟨rfl, ⟨hH, hG⟩, hK, hN⟩ := hv
  have hx := B9.exec
  have hb := B9.bytes
  have hr := B9.returns
  have hts := atoms_spec (ws := wsX5_copyFrom) B9.pre
  have hown : s.vm.findClass RX5 = some m.cls := findClass_of_methodNamed B9.named
  have hlocks := B9.notSynchronized
  have hS : va_S (z_A zd ad) s.heap s.heap [] := va_S.rf
  have hH : zW dC dI ca ad M s.heap := hH
  have hG : zW dC dI ca ad2 N s.heap := hG
  have hinX5 : ∀ w ∈ u_ws RX5 TX5 7, w ∈ wsX5_copyFrom := by decide +kernel
  have hl := lv_entry ([.ref (ad (70 + s0)), .ref (ad2 (70 + s2))]) (n := 2) (Nat.le_of_ble_eq_true rfl)
  rw [lg_entry_eq]
  generalize (lg_sl ([.ref (ad (70 + s0)), .ref (ad2 (70 + s2))]) ++ List.replicate (2 - (lg_sl ([.ref (ad (70 + s0)), .ref (ad2 (70 + s2))])).length) Slot.unset).toArray = ls at hl ⊢
  have hl : lv_has ls 2 [(0, .ref (ad (70 + s0))), (1, .ref (ad2 (70 + s2)))] := hl
  refine lv_aload_n hx hb dX5_copyFrom_0 rfl (lv_at hl 0 rfl) ?_
  refine lv_aload_n hx hb dX5_copyFrom_1 rfl (lv_at hl 1 rfl) ?_
  refine z_gi (D := (dC, dI)) (cl := vwCl) (C := RX5) (T := TX5) (N := 7) (ci := 5) (k := 0) hx hb hts hinX5 hown hK hG (zk_s h_s2) (by decide) rfl (by decide) rfl (hts (.fieldLink RX5 7 "Steamfield$Spring" "block" "I") (by decide +kernel)) (fun _ h9 => h9) dX5_copyFrom_2 ?_
  refine lv_topi (fun x1 ex1 => ?_)
  refine zp_i (D := (dC, dI)) (cl := vwCl) (C := RX5) (T := TX5) (N := 7) (ci := 5) (k := 0) (ty := .int) hx hb hts hinX5 tyX5 tyX5_ok nmX5 hown hK hH hI hS (fun _ h => h) (zk_s h_s0) (by decide) rfl (by decide) rfl (hts (.fieldLink RX5 7 "Steamfield$Spring" "block" "I") (by decide +kernel)) (fun _ h9 => h9) rfl (by decide +kernel) rfl rfl dX5_copyFrom_5 (fun H locs hH oq hS => ?_)
  have hG := zW_u hG oq hX (zk_lt (zk_s h_s0) (by decide))
  obtain ⟨M2, hM2⟩ : ∃ z : zM, z = zu M (70 + s0) 0 x1 := ⟨_, rfl⟩
  rw [← hM2] at hH
  refine lv_aload_n hx hb dX5_copyFrom_8 rfl (lv_at hl 0 rfl) ?_
  refine lv_aload_n hx hb dX5_copyFrom_9 rfl (lv_at hl 1 rfl) ?_
  refine z_gi (D := (dC, dI)) (cl := vwCl) (C := RX5) (T := TX5) (N := 7) (ci := 5) (k := 1) hx hb hts hinX5 hown hK hG (zk_s h_s2) (by decide) rfl (by decide) rfl (hts (.fieldLink RX5 13 "Steamfield$Spring" "level" "I") (by decide +kernel)) (fun _ h9 => h9) dX5_copyFrom_10 ?_
  refine lv_topi (fun x3 ex3 => ?_)
  refine zp_i (D := (dC, dI)) (cl := vwCl) (C := RX5) (T := TX5) (N := 7) (ci := 5) (k := 1) (ty := .int) hx hb hts hinX5 tyX5 tyX5_ok nmX5 hown hK hH hI hS (fun _ h => h) (zk_s h_s0) (by decide) rfl (by decide) rfl (hts (.fieldLink RX5 13 "Steamfield$Spring" "level" "I") (by decide +kernel)) (fun _ h9 => h9) rfl (by decide +kernel) rfl rfl dX5_copyFrom_13 (fun H locs hH oq hS => ?_)
  have hG := zW_u hG oq hX (zk_lt (zk_s h_s0) (by decide))
  obtain ⟨M4, hM4⟩ : ∃ z : zM, z = zu M2 (70 + s0) 1 x3 := ⟨_, rfl⟩
  rw [← hM4] at hH
  refine lv_aload_n hx hb dX5_copyFrom_16 rfl (lv_at hl 0 rfl) ?_
  refine lv_aload_n hx hb dX5_copyFrom_17 rfl (lv_at hl 1 rfl) ?_
  refine z_gi (D := (dC, dI)) (cl := vwCl) (C := RX5) (T := TX5) (N := 7) (ci := 5) (k := 2) hx hb hts hinX5 hown hK hG (zk_s h_s2) (by decide) rfl (by decide) rfl (hts (.fieldLink RX5 16 "Steamfield$Spring" "promise" "I") (by decide +kernel)) (fun _ h9 => h9) dX5_copyFrom_18 ?_
  refine lv_topi (fun x5 ex5 => ?_)
  refine zp_i (D := (dC, dI)) (cl := vwCl) (C := RX5) (T := TX5) (N := 7) (ci := 5) (k := 2) (ty := .int) hx hb hts hinX5 tyX5 tyX5_ok nmX5 hown hK hH hI hS (fun _ h => h) (zk_s h_s0) (by decide) rfl (by decide) rfl (hts (.fieldLink RX5 16 "Steamfield$Spring" "promise" "I") (by decide +kernel)) (fun _ h9 => h9) rfl (by decide +kernel) rfl rfl dX5_copyFrom_21 (fun H locs hH oq hS => ?_)
  have hG := zW_u hG oq hX (zk_lt (zk_s h_s0) (by decide))
  obtain ⟨M6, hM6⟩ : ∃ z : zM, z = zu M4 (70 + s0) 2 x5 := ⟨_, rfl⟩
  rw [← hM6] at hH
  refine lv_aload_n hx hb dX5_copyFrom_24 rfl (lv_at hl 0 rfl) ?_
  refine lv_aload_n hx hb dX5_copyFrom_25 rfl (lv_at hl 1 rfl) ?_
  refine z_gi (D := (dC, dI)) (cl := vwCl) (C := RX5) (T := TX5) (N := 7) (ci := 5) (k := 3) hx hb hts hinX5 hown hK hG (zk_s h_s2) (by decide) rfl (by decide) rfl (hts (.fieldLink RX5 19 "Steamfield$Spring" "flow" "I") (by decide +kernel)) (fun _ h9 => h9) dX5_copyFrom_26 ?_
  refine lv_topi (fun x7 ex7 => ?_)
  refine zp_i (D := (dC, dI)) (cl := vwCl) (C := RX5) (T := TX5) (N := 7) (ci := 5) (k := 3) (ty := .int) hx hb hts hinX5 tyX5 tyX5_ok nmX5 hown hK hH hI hS (fun _ h => h) (zk_s h_s0) (by decide) rfl (by decide) rfl (hts (.fieldLink RX5 19 "Steamfield$Spring" "flow" "I") (by decide +kernel)) (fun _ h9 => h9) rfl (by decide +kernel) rfl rfl dX5_copyFrom_29 (fun H locs hH oq hS => ?_)
  have hG := zW_u hG oq hX (zk_lt (zk_s h_s0) (by decide))
  obtain ⟨M8, hM8⟩ : ∃ z : zM, z = zu M6 (70 + s0) 3 x7 := ⟨_, rfl⟩
  rw [← hM8] at hH
  refine lv_aload_n hx hb dX5_copyFrom_32 rfl (lv_at hl 0 rfl) ?_
  refine lv_aload_n hx hb dX5_copyFrom_33 rfl (lv_at hl 1 rfl) ?_
  refine z_gi (D := (dC, dI)) (cl := vwCl) (C := RX5) (T := TX5) (N := 7) (ci := 5) (k := 4) hx hb hts hinX5 hown hK hG (zk_s h_s2) (by decide) rfl (by decide) rfl (hts (.fieldLink RX5 22 "Steamfield$Spring" "lacked" "I") (by decide +kernel)) (fun _ h9 => h9) dX5_copyFrom_34 ?_
  refine lv_topi (fun x9 ex9 => ?_)
  refine zp_i (D := (dC, dI)) (cl := vwCl) (C := RX5) (T := TX5) (N := 7) (ci := 5) (k := 4) (ty := .int) hx hb hts hinX5 tyX5 tyX5_ok nmX5 hown hK hH hI hS (fun _ h => h) (zk_s h_s0) (by decide) rfl (by decide) rfl (hts (.fieldLink RX5 22 "Steamfield$Spring" "lacked" "I") (by decide +kernel)) (fun _ h9 => h9) rfl (by decide +kernel) rfl rfl dX5_copyFrom_37 (fun H locs hH oq hS => ?_)
  have hG := zW_u hG oq hX (zk_lt (zk_s h_s0) (by decide))
  obtain ⟨M10, hM10⟩ : ∃ z : zM, z = zu M8 (70 + s0) 4 x9 := ⟨_, rfl⟩
  rw [← hM10] at hH
  refine lv_aload_n hx hb dX5_copyFrom_40 rfl (lv_at hl 0 rfl) ?_
  refine lv_aload_n hx hb dX5_copyFrom_41 rfl (lv_at hl 1 rfl) ?_
  refine z_gi (D := (dC, dI)) (cl := vwCl) (C := RX5) (T := TX5) (N := 7) (ci := 5) (k := 5) hx hb hts hinX5 hown hK hG (zk_s h_s2) (by decide) rfl (by decide) rfl (hts (.fieldLink RX5 25 "Steamfield$Spring" "flowEver" "I") (by decide +kernel)) (fun _ h9 => h9) dX5_copyFrom_42 ?_
  refine lv_topi (fun x11 ex11 => ?_)
  refine zp_i (D := (dC, dI)) (cl := vwCl) (C := RX5) (T := TX5) (N := 7) (ci := 5) (k := 5) (ty := .int) hx hb hts hinX5 tyX5 tyX5_ok nmX5 hown hK hH hI hS (fun _ h => h) (zk_s h_s0) (by decide) rfl (by decide) rfl (hts (.fieldLink RX5 25 "Steamfield$Spring" "flowEver" "I") (by decide +kernel)) (fun _ h9 => h9) rfl (by decide +kernel) rfl rfl dX5_copyFrom_45 (fun H locs hH oq hS => ?_)
  have hG := zW_u hG oq hX (zk_lt (zk_s h_s0) (by decide))
  obtain ⟨M12, hM12⟩ : ∃ z : zM, z = zu M10 (70 + s0) 5 x11 := ⟨_, rfl⟩
  rw [← hM12] at hH
  refine lv_aload_n hx hb dX5_copyFrom_48 rfl (lv_at hl 0 rfl) ?_
  refine lv_aload_n hx hb dX5_copyFrom_49 rfl (lv_at hl 1 rfl) ?_
  refine z_gi (D := (dC, dI)) (cl := vwCl) (C := RX5) (T := TX5) (N := 7) (ci := 5) (k := 6) hx hb hts hinX5 hown hK hG (zk_s h_s2) (by decide) rfl (by decide) rfl (hts (.fieldLink RX5 28 "Steamfield$Spring" "lackedEver" "I") (by decide +kernel)) (fun _ h9 => h9) dX5_copyFrom_50 ?_
  refine lv_topi (fun x13 ex13 => ?_)
  refine zp_i (D := (dC, dI)) (cl := vwCl) (C := RX5) (T := TX5) (N := 7) (ci := 5) (k := 6) (ty := .int) hx hb hts hinX5 tyX5 tyX5_ok nmX5 hown hK hH hI hS (fun _ h => h) (zk_s h_s0) (by decide) rfl (by decide) rfl (hts (.fieldLink RX5 28 "Steamfield$Spring" "lackedEver" "I") (by decide +kernel)) (fun _ h9 => h9) rfl (by decide +kernel) rfl rfl dX5_copyFrom_53 (fun H locs hH oq hS => ?_)
  have hG := zW_u hG oq hX (zk_lt (zk_s h_s0) (by decide))
  obtain ⟨M14, hM14⟩ : ∃ z : zM, z = zu M12 (70 + s0) 6 x13 := ⟨_, rfl⟩
  rw [← hM14] at hH
  have hF0 : zW dC dI ca ad (fX5_copyFrom M N s0 s2) H := by
    have e9 : M14 = (fX5_copyFrom M N s0 s2) := by subst hM14; subst ex13; subst hM12; subst ex11; subst hM10; subst ex9; subst hM8; subst ex7; subst hM6; subst ex5; subst hM4; subst ex3; subst hM2; subst ex1; rfl
    rw [← e9]; exact hH
  exact W.vret hx hb hr (fun t ht hW => ⟨⟨(), rfl, trivial, z_to (B := fun H => zW dC dI ca ad (fX5_copyFrom M N s0 s2) H ∧ zW dC dI ca ad2 N H) ht ⟨hF0, hG⟩⟩, hS.F ht⟩) hS.2.2 dX5_copyFrom_56

def fX4_copyFrom (M : zM) (N : zM)  : zM :=
  let x1 : Int32 := N 6 0
  let M2 : zM := zu M 6 0 x1
  let x3 : Int32 := N 6 1
  let M4 : zM := zu M2 6 1 x3
  let x5 : Int32 := N 6 2
  let M6 : zM := zu M4 6 2 x5
  let x7 : Int32 := N 6 3
  let M8 : zM := zu M6 6 3 x7
  let x9 : Int32 := N 6 4
  let M10 : zM := zu M8 6 4 x9
  let x11 : Int32 := N 6 5
  let M12 : zM := zu M10 6 5 x11
  M12
set_option maxHeartbeats 4000000 in
set_option maxRecDepth 100000 in
theorem m_X4_copyFrom (l : Launch) (dC : Nat → ClassId) (dI : Nat → Nat → Nat) (ca : Nat → ClassId) (ad : Nat → Nat) (hI : z_I zd ad) (ad2 : Nat → Nat) (hI2 : z_I zd ad2) (hX : ∀ i j, zk i < 200 → zk j < 200 → ad i ≠ ad2 j) (M : zM) (N : zM) (h_run : N 6 1 = 0 ∨ N 6 1 = 1) : Met l yX4_copyFrom wsX4_copyFrom ({ frames := 0, cells := 0, slots := 0, locals := 0 }) (z_Pc (dC, dI) vwCl (zt ca) zw_nest [.ref (ad 6), .ref (ad2 6)] (fun H => zW dC dI ca ad M H ∧ zW dC dI ca ad2 N H)) (z_Qv (fun H => zW dC dI ca ad (fX4_copyFrom M N ) H ∧ zW dC dI ca ad2 N H) (z_A zd ad)) 0 0 (z_A zd ad) := by
  refine Met.ofW (cc := cX4_copyFrom) (maxL := 2) (ret := none) (by decide) rfl ?_
  intro p e s m args below meth c s₁ B9 hml hv
  obtain ⟨rfl, ⟨hH, hG⟩, hK, hN⟩ := hv
  have hx := B9.exec
  have hb := B9.bytes
  have hr := B9.returns
  have hts := atoms_spec (ws := wsX4_copyFrom) B9.pre
  have hown : s.vm.findClass RX4 = some m.cls := findClass_of_methodNamed B9.named
  have hlocks := B9.notSynchronized
  have hS : va_S (z_A zd ad) s.heap s.heap [] := va_S.rf
  have hH : zW dC dI ca ad M s.heap := hH
  have hG : zW dC dI ca ad2 N s.heap := hG
  have hinX4 : ∀ w ∈ u_ws RX4 TX4 6, w ∈ wsX4_copyFrom := by decide +kernel
  have hl := lv_entry ([.ref (ad 6), .ref (ad2 6)]) (n := 2) (Nat.le_of_ble_eq_true rfl)
  rw [lg_entry_eq]
  generalize (lg_sl ([.ref (ad 6), .ref (ad2 6)]) ++ List.replicate (2 - (lg_sl ([.ref (ad 6), .ref (ad2 6)])).length) Slot.unset).toArray = ls at hl ⊢
  have hl : lv_has ls 2 [(0, .ref (ad 6)), (1, .ref (ad2 6))] := hl
  refine lv_aload_n hx hb dX4_copyFrom_0 rfl (lv_at hl 0 rfl) ?_
  refine lv_aload_n hx hb dX4_copyFrom_1 rfl (lv_at hl 1 rfl) ?_
  refine z_gi (D := (dC, dI)) (cl := vwCl) (C := RX4) (T := TX4) (N := 6) (ci := 4) (k := 0) hx hb hts hinX4 hown hK hG zk_6 (by decide) rfl (by decide) rfl (hts (.fieldLink RX4 7 "Steamfield$Plant" "size" "I") (by decide +kernel)) (fun _ h9 => h9) dX4_copyFrom_2 ?_
  refine lv_topi (fun x1 ex1 => ?_)
  refine zp_i (D := (dC, dI)) (cl := vwCl) (C := RX4) (T := TX4) (N := 6) (ci := 4) (k := 0) (ty := .int) hx hb hts hinX4 tyX4 tyX4_ok nmX4 hown hK hH hI hS (fun _ h => h) zk_6 (by decide) rfl (by decide) rfl (hts (.fieldLink RX4 7 "Steamfield$Plant" "size" "I") (by decide +kernel)) (fun _ h9 => h9) rfl (by decide +kernel) rfl rfl dX4_copyFrom_5 (fun H locs hH oq hS => ?_)
  have hG := zW_u hG oq hX (zk_lt zk_6 (by decide))
  obtain ⟨M2, hM2⟩ : ∃ z : zM, z = zu M 6 0 x1 := ⟨_, rfl⟩
  rw [← hM2] at hH
  refine lv_aload_n hx hb dX4_copyFrom_8 rfl (lv_at hl 0 rfl) ?_
  refine lv_aload_n hx hb dX4_copyFrom_9 rfl (lv_at hl 1 rfl) ?_
  refine z_gi (D := (dC, dI)) (cl := vwCl) (C := RX4) (T := TX4) (N := 6) (ci := 4) (k := 1) hx hb hts hinX4 hown hK hG zk_6 (by decide) rfl (by decide) rfl (hts (.fieldLink RX4 13 "Steamfield$Plant" "isRunning" "Z") (by decide +kernel)) (fun _ h9 => h9) dX4_copyFrom_10 ?_
  refine lv_topi (fun x3 ex3 => ?_)
  refine zp_i (D := (dC, dI)) (cl := vwCl) (C := RX4) (T := TX4) (N := 6) (ci := 4) (k := 1) (ty := .boolean) hx hb hts hinX4 tyX4 tyX4_ok nmX4 hown hK hH hI hS (fun _ h => h) zk_6 (by decide) rfl (by decide) rfl (hts (.fieldLink RX4 13 "Steamfield$Plant" "isRunning" "Z") (by decide +kernel)) (fun _ h9 => h9) rfl (by decide +kernel) (z_bn (by rw [ex3]; exact h_run)) (z_bf (by rw [ex3]; exact h_run)) dX4_copyFrom_13 (fun H locs hH oq hS => ?_)
  have hG := zW_u hG oq hX (zk_lt zk_6 (by decide))
  obtain ⟨M4, hM4⟩ : ∃ z : zM, z = zu M2 6 1 x3 := ⟨_, rfl⟩
  rw [← hM4] at hH
  refine lv_aload_n hx hb dX4_copyFrom_16 rfl (lv_at hl 0 rfl) ?_
  refine lv_aload_n hx hb dX4_copyFrom_17 rfl (lv_at hl 1 rfl) ?_
  refine z_gi (D := (dC, dI)) (cl := vwCl) (C := RX4) (T := TX4) (N := 6) (ci := 4) (k := 2) hx hb hts hinX4 hown hK hG zk_6 (by decide) rfl (by decide) rfl (hts (.fieldLink RX4 17 "Steamfield$Plant" "power" "I") (by decide +kernel)) (fun _ h9 => h9) dX4_copyFrom_18 ?_
  refine lv_topi (fun x5 ex5 => ?_)
  refine zp_i (D := (dC, dI)) (cl := vwCl) (C := RX4) (T := TX4) (N := 6) (ci := 4) (k := 2) (ty := .int) hx hb hts hinX4 tyX4 tyX4_ok nmX4 hown hK hH hI hS (fun _ h => h) zk_6 (by decide) rfl (by decide) rfl (hts (.fieldLink RX4 17 "Steamfield$Plant" "power" "I") (by decide +kernel)) (fun _ h9 => h9) rfl (by decide +kernel) rfl rfl dX4_copyFrom_21 (fun H locs hH oq hS => ?_)
  have hG := zW_u hG oq hX (zk_lt zk_6 (by decide))
  obtain ⟨M6, hM6⟩ : ∃ z : zM, z = zu M4 6 2 x5 := ⟨_, rfl⟩
  rw [← hM6] at hH
  refine lv_aload_n hx hb dX4_copyFrom_24 rfl (lv_at hl 0 rfl) ?_
  refine lv_aload_n hx hb dX4_copyFrom_25 rfl (lv_at hl 1 rfl) ?_
  refine z_gi (D := (dC, dI)) (cl := vwCl) (C := RX4) (T := TX4) (N := 6) (ci := 4) (k := 3) hx hb hts hinX4 hown hK hG zk_6 (by decide) rfl (by decide) rfl (hts (.fieldLink RX4 20 "Steamfield$Plant" "powerEver" "I") (by decide +kernel)) (fun _ h9 => h9) dX4_copyFrom_26 ?_
  refine lv_topi (fun x7 ex7 => ?_)
  refine zp_i (D := (dC, dI)) (cl := vwCl) (C := RX4) (T := TX4) (N := 6) (ci := 4) (k := 3) (ty := .int) hx hb hts hinX4 tyX4 tyX4_ok nmX4 hown hK hH hI hS (fun _ h => h) zk_6 (by decide) rfl (by decide) rfl (hts (.fieldLink RX4 20 "Steamfield$Plant" "powerEver" "I") (by decide +kernel)) (fun _ h9 => h9) rfl (by decide +kernel) rfl rfl dX4_copyFrom_29 (fun H locs hH oq hS => ?_)
  have hG := zW_u hG oq hX (zk_lt zk_6 (by decide))
  obtain ⟨M8, hM8⟩ : ∃ z : zM, z = zu M6 6 3 x7 := ⟨_, rfl⟩
  rw [← hM8] at hH
  refine lv_aload_n hx hb dX4_copyFrom_32 rfl (lv_at hl 0 rfl) ?_
  refine lv_aload_n hx hb dX4_copyFrom_33 rfl (lv_at hl 1 rfl) ?_
  refine z_gi (D := (dC, dI)) (cl := vwCl) (C := RX4) (T := TX4) (N := 6) (ci := 4) (k := 4) hx hb hts hinX4 hown hK hG zk_6 (by decide) rfl (by decide) rfl (hts (.fieldLink RX4 23 "Steamfield$Plant" "need" "I") (by decide +kernel)) (fun _ h9 => h9) dX4_copyFrom_34 ?_
  refine lv_topi (fun x9 ex9 => ?_)
  refine zp_i (D := (dC, dI)) (cl := vwCl) (C := RX4) (T := TX4) (N := 6) (ci := 4) (k := 4) (ty := .int) hx hb hts hinX4 tyX4 tyX4_ok nmX4 hown hK hH hI hS (fun _ h => h) zk_6 (by decide) rfl (by decide) rfl (hts (.fieldLink RX4 23 "Steamfield$Plant" "need" "I") (by decide +kernel)) (fun _ h9 => h9) rfl (by decide +kernel) rfl rfl dX4_copyFrom_37 (fun H locs hH oq hS => ?_)
  have hG := zW_u hG oq hX (zk_lt zk_6 (by decide))
  obtain ⟨M10, hM10⟩ : ∃ z : zM, z = zu M8 6 4 x9 := ⟨_, rfl⟩
  rw [← hM10] at hH
  refine lv_aload_n hx hb dX4_copyFrom_40 rfl (lv_at hl 0 rfl) ?_
  refine lv_aload_n hx hb dX4_copyFrom_41 rfl (lv_at hl 1 rfl) ?_
  refine z_gi (D := (dC, dI)) (cl := vwCl) (C := RX4) (T := TX4) (N := 6) (ci := 4) (k := 5) hx hb hts hinX4 hown hK hG zk_6 (by decide) rfl (by decide) rfl (hts (.fieldLink RX4 26 "Steamfield$Plant" "townHeat" "I") (by decide +kernel)) (fun _ h9 => h9) dX4_copyFrom_42 ?_
  refine lv_topi (fun x11 ex11 => ?_)
  refine zp_i (D := (dC, dI)) (cl := vwCl) (C := RX4) (T := TX4) (N := 6) (ci := 4) (k := 5) (ty := .int) hx hb hts hinX4 tyX4 tyX4_ok nmX4 hown hK hH hI hS (fun _ h => h) zk_6 (by decide) rfl (by decide) rfl (hts (.fieldLink RX4 26 "Steamfield$Plant" "townHeat" "I") (by decide +kernel)) (fun _ h9 => h9) rfl (by decide +kernel) rfl rfl dX4_copyFrom_45 (fun H locs hH oq hS => ?_)
  have hG := zW_u hG oq hX (zk_lt zk_6 (by decide))
  obtain ⟨M12, hM12⟩ : ∃ z : zM, z = zu M10 6 5 x11 := ⟨_, rfl⟩
  rw [← hM12] at hH
  have hF0 : zW dC dI ca ad (fX4_copyFrom M N ) H := by
    have e9 : M12 = (fX4_copyFrom M N ) := by subst hM12; subst ex11; subst hM10; subst ex9; subst hM8; subst ex7; subst hM6; subst ex5; subst hM4; subst ex3; subst hM2; subst ex1; rfl
    rw [← e9]; exact hH
  exact W.vret hx hb hr (fun t ht hW => ⟨⟨(), rfl, trivial, z_to (B := fun H => zW dC dI ca ad (fX4_copyFrom M N ) H ∧ zW dC dI ca ad2 N H) ht ⟨hF0, hG⟩⟩, hS.F ht⟩) hS.2.2 dX4_copyFrom_48

def fX1_copyFrom (M : zM) (N : zM)  : zM :=
  let M1 : zM := fX6_copyFrom M N 11 11
  let M2 : zM := fX6_copyFrom M1 N 12 12
  let M3 : zM := fX6_copyFrom M2 N 13 13
  let x4 : Int32 := N 7 3
  let M5 : zM := zu M3 7 3 x4
  let x6 : Int32 := N 7 4
  let M7 : zM := zu M5 7 4 x6
  M7
set_option maxHeartbeats 4000000 in
set_option maxRecDepth 100000 in
theorem m_X1_copyFrom (l : Launch) (dC : Nat → ClassId) (dI : Nat → Nat → Nat) (ca : Nat → ClassId) (ad : Nat → Nat) (hI : z_I zd ad) (ad2 : Nat → Nat) (hI2 : z_I zd ad2) (hX : ∀ i j, zk i < 200 → zk j < 200 → ad i ≠ ad2 j) (M : zM) (N : zM)  : Met l yX1_copyFrom wsX1_copyFrom ({ frames := 1, cells := 0, slots := 0, locals := 21 }) (z_Pc (dC, dI) vwCl (zt ca) zw_nest [.ref (ad 7), .ref (ad2 7)] (fun H => zW dC dI ca ad M H ∧ zW dC dI ca ad2 N H)) (z_Qv (fun H => zW dC dI ca ad (fX1_copyFrom M N ) H ∧ zW dC dI ca ad2 N H) (z_A zd ad)) 0 0 (z_A zd ad) := by
  refine Met.ofW (cc := cX1_copyFrom) (maxL := 2) (ret := none) (by decide) rfl ?_
  intro p e s m args below meth c s₁ B9 hml hv
  obtain ⟨rfl, ⟨hH, hG⟩, hK, hN⟩ := hv
  have hx := B9.exec
  have hb := B9.bytes
  have hr := B9.returns
  have hts := atoms_spec (ws := wsX1_copyFrom) B9.pre
  have hown : s.vm.findClass RX1 = some m.cls := findClass_of_methodNamed B9.named
  have hlocks := B9.notSynchronized
  have hS : va_S (z_A zd ad) s.heap s.heap [] := va_S.rf
  have hH : zW dC dI ca ad M s.heap := hH
  have hG : zW dC dI ca ad2 N s.heap := hG
  have hinX1 : ∀ w ∈ u_ws RX1 TX1 5, w ∈ wsX1_copyFrom := by decide +kernel
  have hl := lv_entry ([.ref (ad 7), .ref (ad2 7)]) (n := 2) (Nat.le_of_ble_eq_true rfl)
  rw [lg_entry_eq]
  generalize (lg_sl ([.ref (ad 7), .ref (ad2 7)]) ++ List.replicate (2 - (lg_sl ([.ref (ad 7), .ref (ad2 7)])).length) Slot.unset).toArray = ls at hl ⊢
  have hl : lv_has ls 2 [(0, .ref (ad 7)), (1, .ref (ad2 7))] := hl
  refine lv_aload_n hx hb dX1_copyFrom_0 rfl (lv_at hl 0 rfl) ?_
  refine z_gr (D := (dC, dI)) (cl := vwCl) (C := RX1) (T := TX1) (N := 5) (ci := 1) (k := 0) hx hb hts hinX1 hown hK hH zk_7 (by decide) rfl (by decide) rfl (zr_7 (k := 0) (by decide)) (hts (.fieldLink RX1 10 "Steamfield$Books" "told" "LSteamfield$Water;") (by decide +kernel)) (fun _ h9 => h9) dX1_copyFrom_1 ?_
  refine lv_aload_n hx hb dX1_copyFrom_4 rfl (lv_at hl 1 rfl) ?_
  refine z_gr (D := (dC, dI)) (cl := vwCl) (C := RX1) (T := TX1) (N := 5) (ci := 1) (k := 0) hx hb hts hinX1 hown hK hG zk_7 (by decide) rfl (by decide) rfl (zr_7 (k := 0) (by decide)) (hts (.fieldLink RX1 10 "Steamfield$Books" "told" "LSteamfield$Water;") (by decide +kernel)) (fun _ h9 => h9) dX1_copyFrom_5 ?_
  refine z_cVv (D := (dC, dI)) (cl := vwCl) (tys := zt ca) (nw := zw_nest) (C := RX6) (As := [.ref (ad2 11)]) (rest := []) ⟨hx, hb, hml, hown, hts⟩ (m_X6_copyFrom l dC dI ca ad hI ad2 hI2 hX M N 11 zk_11 11 zk_11) (cwV 1 hts gX1_copyFrom_X6_copyFrom rfl rfl rfl (by decide +kernel) ⟨Nat.le_of_ble_eq_true rfl, Nat.le_of_ble_eq_true rfl⟩) (z_recv (ci := 6) (i := 11) hK hH zk_11 (by decide) rfl) ⟨hH, hG⟩ hK hN zw_nest_ok rfl hl.1 rfl (Nat.le_of_ble_eq_true rfl) dX1_copyFrom_8 ⟨Nat.le_refl _, Nat.le_refl _⟩ hS (fun _ h => h) (fun H locs hB1 oq1 hz1 hS => ?_)
  obtain ⟨hH, hG⟩ := hB1
  obtain ⟨M1, hM1⟩ : ∃ z : zM, z = fX6_copyFrom M N 11 11 := ⟨_, rfl⟩
  have hH : z_H (dC, dI) vwCl zf ca zd ad M1 H := by rw [hM1]; exact hH
  refine lv_aload_n hx hb dX1_copyFrom_11 rfl (lv_at hl 0 rfl) ?_
  refine z_gr (D := (dC, dI)) (cl := vwCl) (C := RX1) (T := TX1) (N := 5) (ci := 1) (k := 1) hx hb hts hinX1 hown hK hH zk_7 (by decide) rfl (by decide) rfl (zr_7 (k := 1) (by decide)) (hts (.fieldLink RX1 16 "Steamfield$Books" "spilled" "LSteamfield$Water;") (by decide +kernel)) (fun _ h9 => h9) dX1_copyFrom_12 ?_
  refine lv_aload_n hx hb dX1_copyFrom_15 rfl (lv_at hl 1 rfl) ?_
  refine z_gr (D := (dC, dI)) (cl := vwCl) (C := RX1) (T := TX1) (N := 5) (ci := 1) (k := 1) hx hb hts hinX1 hown hK hG zk_7 (by decide) rfl (by decide) rfl (zr_7 (k := 1) (by decide)) (hts (.fieldLink RX1 16 "Steamfield$Books" "spilled" "LSteamfield$Water;") (by decide +kernel)) (fun _ h9 => h9) dX1_copyFrom_16 ?_
  refine z_cVv (D := (dC, dI)) (cl := vwCl) (tys := zt ca) (nw := zw_nest) (C := RX6) (As := [.ref (ad2 12)]) (rest := []) ⟨hx, hb, hml, hown, hts⟩ (m_X6_copyFrom l dC dI ca ad hI ad2 hI2 hX M1 N 12 zk_12 12 zk_12) (cwV 1 hts gX1_copyFrom_X6_copyFrom rfl rfl rfl (by decide +kernel) ⟨Nat.le_of_ble_eq_true rfl, Nat.le_of_ble_eq_true rfl⟩) (z_recv (ci := 6) (i := 12) hK hH zk_12 (by decide) rfl) ⟨hH, hG⟩ hK hN zw_nest_ok rfl hl.1 rfl (Nat.le_of_ble_eq_true rfl) dX1_copyFrom_19 ⟨Nat.le_refl _, Nat.le_refl _⟩ hS (fun _ h => h) (fun H locs hB1 oq1 hz1 hS => ?_)
  obtain ⟨hH, hG⟩ := hB1
  obtain ⟨M2, hM2⟩ : ∃ z : zM, z = fX6_copyFrom M1 N 12 12 := ⟨_, rfl⟩
  have hH : z_H (dC, dI) vwCl zf ca zd ad M2 H := by rw [hM2]; exact hH
  refine lv_aload_n hx hb dX1_copyFrom_22 rfl (lv_at hl 0 rfl) ?_
  refine z_gr (D := (dC, dI)) (cl := vwCl) (C := RX1) (T := TX1) (N := 5) (ci := 1) (k := 2) hx hb hts hinX1 hown hK hH zk_7 (by decide) rfl (by decide) rfl (zr_7 (k := 2) (by decide)) (hts (.fieldLink RX1 19 "Steamfield$Books" "sprung" "LSteamfield$Water;") (by decide +kernel)) (fun _ h9 => h9) dX1_copyFrom_23 ?_
  refine lv_aload_n hx hb dX1_copyFrom_26 rfl (lv_at hl 1 rfl) ?_
  refine z_gr (D := (dC, dI)) (cl := vwCl) (C := RX1) (T := TX1) (N := 5) (ci := 1) (k := 2) hx hb hts hinX1 hown hK hG zk_7 (by decide) rfl (by decide) rfl (zr_7 (k := 2) (by decide)) (hts (.fieldLink RX1 19 "Steamfield$Books" "sprung" "LSteamfield$Water;") (by decide +kernel)) (fun _ h9 => h9) dX1_copyFrom_27 ?_
  refine z_cVv (D := (dC, dI)) (cl := vwCl) (tys := zt ca) (nw := zw_nest) (C := RX6) (As := [.ref (ad2 13)]) (rest := []) ⟨hx, hb, hml, hown, hts⟩ (m_X6_copyFrom l dC dI ca ad hI ad2 hI2 hX M2 N 13 zk_13 13 zk_13) (cwV 1 hts gX1_copyFrom_X6_copyFrom rfl rfl rfl (by decide +kernel) ⟨Nat.le_of_ble_eq_true rfl, Nat.le_of_ble_eq_true rfl⟩) (z_recv (ci := 6) (i := 13) hK hH zk_13 (by decide) rfl) ⟨hH, hG⟩ hK hN zw_nest_ok rfl hl.1 rfl (Nat.le_of_ble_eq_true rfl) dX1_copyFrom_30 ⟨Nat.le_refl _, Nat.le_refl _⟩ hS (fun _ h => h) (fun H locs hB1 oq1 hz1 hS => ?_)
  obtain ⟨hH, hG⟩ := hB1
  obtain ⟨M3, hM3⟩ : ∃ z : zM, z = fX6_copyFrom M2 N 13 13 := ⟨_, rfl⟩
  have hH : z_H (dC, dI) vwCl zf ca zd ad M3 H := by rw [hM3]; exact hH
  refine lv_aload_n hx hb dX1_copyFrom_33 rfl (lv_at hl 0 rfl) ?_
  refine lv_aload_n hx hb dX1_copyFrom_34 rfl (lv_at hl 1 rfl) ?_
  refine z_gi (D := (dC, dI)) (cl := vwCl) (C := RX1) (T := TX1) (N := 5) (ci := 1) (k := 3) hx hb hts hinX1 hown hK hG zk_7 (by decide) rfl (by decide) rfl (hts (.fieldLink RX1 26 "Steamfield$Books" "used" "I") (by decide +kernel)) (fun _ h9 => h9) dX1_copyFrom_35 ?_
  refine lv_topi (fun x4 ex4 => ?_)
  refine zp_i (D := (dC, dI)) (cl := vwCl) (C := RX1) (T := TX1) (N := 5) (ci := 1) (k := 3) (ty := .int) hx hb hts hinX1 tyX1 tyX1_ok nmX1 hown hK hH hI hS (fun _ h => h) zk_7 (by decide) rfl (by decide) rfl (hts (.fieldLink RX1 26 "Steamfield$Books" "used" "I") (by decide +kernel)) (fun _ h9 => h9) rfl (by decide +kernel) rfl rfl dX1_copyFrom_38 (fun H locs hH oq hS => ?_)
  have hG := zW_u hG oq hX (zk_lt zk_7 (by decide))
  obtain ⟨M5, hM5⟩ : ∃ z : zM, z = zu M3 7 3 x4 := ⟨_, rfl⟩
  rw [← hM5] at hH
  refine lv_aload_n hx hb dX1_copyFrom_41 rfl (lv_at hl 0 rfl) ?_
  refine lv_aload_n hx hb dX1_copyFrom_42 rfl (lv_at hl 1 rfl) ?_
  refine z_gi (D := (dC, dI)) (cl := vwCl) (C := RX1) (T := TX1) (N := 5) (ci := 1) (k := 4) hx hb hts hinX1 hown hK hG zk_7 (by decide) rfl (by decide) rfl (hts (.fieldLink RX1 30 "Steamfield$Books" "vented" "I") (by decide +kernel)) (fun _ h9 => h9) dX1_copyFrom_43 ?_
  refine lv_topi (fun x6 ex6 => ?_)
  refine zp_i (D := (dC, dI)) (cl := vwCl) (C := RX1) (T := TX1) (N := 5) (ci := 1) (k := 4) (ty := .int) hx hb hts hinX1 tyX1 tyX1_ok nmX1 hown hK hH hI hS (fun _ h => h) zk_7 (by decide) rfl (by decide) rfl (hts (.fieldLink RX1 30 "Steamfield$Books" "vented" "I") (by decide +kernel)) (fun _ h9 => h9) rfl (by decide +kernel) rfl rfl dX1_copyFrom_46 (fun H locs hH oq hS => ?_)
  have hG := zW_u hG oq hX (zk_lt zk_7 (by decide))
  obtain ⟨M7, hM7⟩ : ∃ z : zM, z = zu M5 7 4 x6 := ⟨_, rfl⟩
  rw [← hM7] at hH
  have hF0 : zW dC dI ca ad (fX1_copyFrom M N ) H := by
    have e9 : M7 = (fX1_copyFrom M N ) := by subst hM7; subst ex6; subst hM5; subst ex4; subst hM3; subst hM2; subst hM1; rfl
    rw [← e9]; exact hH
  exact W.vret hx hb hr (fun t ht hW => ⟨⟨(), rfl, trivial, z_to (B := fun H => zW dC dI ca ad (fX1_copyFrom M N ) H ∧ zW dC dI ca ad2 N H) ht ⟨hF0, hG⟩⟩, hS.F ht⟩) hS.2.2 dX1_copyFrom_49

