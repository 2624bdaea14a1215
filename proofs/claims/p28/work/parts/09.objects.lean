abbrev zW (dC : Nat → ClassId) (dI : Nat → Nat → Nat) (ca : Nat → ClassId) (ad : Nat → Nat) (M : zM) (H : Heap) : Prop := z_H (dC, dI) vwCl zf ca zd ad M H
def rX6_shareOf (M : zM) (i : Nat) (a0 : Int32) (a1 : Int32) : Int32 :=
  let x1 := M i 0
  let x3 := if x1 ≤ 0 then 0 else (let y3 := a1.toInt64; let y4 := a0.toInt64; let y5 := y3 * y4; let x6 := M i 0; let y7 := x6.toInt64; let y8 := y5 / y7; let x9 := y8.toInt32; x9)
  x3
set_option maxHeartbeats 4000000 in
set_option maxRecDepth 100000 in
theorem m_X6_shareOf (l : Launch) (dC : Nat → ClassId) (dI : Nat → Nat → Nat) (ca : Nat → ClassId) (ad : Nat → Nat) (hI : z_I zd ad) (M : zM) (i : Nat) (h_i : zk i = 6) (a0 : Int32) (a1 : Int32) : Met l yX6_shareOf wsX6_shareOf ({ frames := 0, cells := 0, slots := 0, locals := 0 }) (z_Pc (dC, dI) vwCl (zt ca) zw_nest [.ref (ad i), .int a0, .int a1] (fun H => zW dC dI ca ad M H)) (z_Qi (rX6_shareOf M i a0 a1) (fun H => zW dC dI ca ad M H) (z_A zd ad)) 0 0 (z_A zd ad) := by
  refine Met.ofW (cc := cX6_shareOf) (maxL := 3) (ret := (some .int)) (by decide) rfl ?_
  intro p e s m args below meth c s₁ B hml hv
  obtain ⟨rfl, hH, hK, hN⟩ := hv
  have hx := B.exec
  have hb := B.bytes
  have hr := B.returns
  have hts := atoms_spec (ws := wsX6_shareOf) B.pre
  have hown : s.vm.findClass RX6 = some m.cls := findClass_of_methodNamed B.named
  have hlocks := B.notSynchronized
  have hS : va_S (z_A zd ad) s.heap s.heap [] := va_S.rf
  have hH : z_H (dC, dI) vwCl zf ca zd ad M s.heap := hH
  have hinX6 : ∀ w ∈ u_ws RX6 TX6 4, w ∈ wsX6_shareOf := by decide +kernel
  have hl := lv_entry ([.ref (ad i), .int a0, .int a1]) (n := 3) (Nat.le_of_ble_eq_true rfl)
  rw [lg_entry_eq]
  generalize (lg_sl ([.ref (ad i), .int a0, .int a1]) ++ List.replicate (3 - (lg_sl ([.ref (ad i), .int a0, .int a1])).length) Slot.unset).toArray = ls at hl ⊢
  have hl : lv_has ls 3 [(0, .ref (ad i)), (1, .int a0), (2, .int a1)] := hl
  refine lv_aload_n hx hb dX6_shareOf_0 rfl (lv_at hl 0 rfl) ?_
  refine z_gi (D := (dC, dI)) (cl := vwCl) (C := RX6) (T := TX6) (N := 4) (ci := 6) (k := 0) hx hb hts hinX6 hown hK hH h_i (by decide) rfl (by decide) rfl (hts (.fieldLink RX6 7 "Steamfield$Water" "mass" "I") (by decide +kernel)) (fun _ h9 => h9) dX6_shareOf_1 ?_
  refine lv_topi (fun x1 ex1 => ?_)
  have J4 : ∀ x3 : Int32, x3 = (if x1 ≤ 0 then 0 else (let y3 := a1.toInt64; let y4 := a0.toInt64; let y5 := y3 * y4; let x6 := M i 0; let y7 := x6.toInt64; let y8 := y5 / y7; let x9 := y8.toInt32; x9)) → ∀ ls : Array Slot, lv_has ls 3 [(0, .ref (ad i)), (1, .int a0), (2, .int a1)] → W p l e (headSpec wsX6_shareOf ({ frames := 0, cells := 0, slots := 0, locals := 0 })).room s m ([.ref (ad i), .int a0, .int a1] : List Value).toArray below meth c s.heap [] 0 0 (MQ below (z_Qi (rX6_shareOf M i a0 a1) (fun H => zW dC dI ca ad M H) (z_A zd ad)) ([.ref (ad i), .int a0, .int a1] : List Value).toArray s 0 0 (z_A zd ad)) (F0 m 23 ls [.int x3]) := by
    intro x3 ex3 ls hl
    have hR : x3 = rX6_shareOf M i a0 a1 := by subst ex3; subst ex1; rfl
    exact W.iret (v := x3) hx hb hr (fun t ht hW => ⟨⟨x3, (), rfl, hR, by rw [ht]; exact hH⟩, hS.F ht⟩) hS.2.2 dX6_shareOf_23
  refine lv_if_le (tgt := 22) hx hb dX6_shareOf_4 (by decide) (fun c2 => ?_) (fun c2 => ?_)
  · refine lv_iconst (v := 0) hx hb dX6_shareOf_22 (by decide) ?_
    exact J4 _ (by exact (if_pos c2).symm) ls (lv_sub hl [0, 1, 2] rfl)
  · refine lv_iload_n hx hb dX6_shareOf_7 rfl (lv_at hl 2 rfl) ?_
    refine lv_i2l hx hb dX6_shareOf_8 rfl ?_
    refine lv_topl (fun y3 ey3 => ?_)
    refine lv_iload_n hx hb dX6_shareOf_9 rfl (lv_at hl 1 rfl) ?_
    refine lv_i2l hx hb dX6_shareOf_10 rfl ?_
    refine lv_topl (fun y4 ey4 => ?_)
    refine lv_lmul hx hb dX6_shareOf_11 ?_
    refine lv_topl (fun y5 ey5 => ?_)
    refine lv_aload_n hx hb dX6_shareOf_12 rfl (lv_at hl 0 rfl) ?_
    refine z_gi (D := (dC, dI)) (cl := vwCl) (C := RX6) (T := TX6) (N := 4) (ci := 6) (k := 0) hx hb hts hinX6 hown hK hH h_i (by decide) rfl (by decide) rfl (hts (.fieldLink RX6 7 "Steamfield$Water" "mass" "I") (by decide +kernel)) (fun _ h9 => h9) dX6_shareOf_13 ?_
    refine lv_topi (fun x6 ex6 => ?_)
    refine lv_i2l hx hb dX6_shareOf_16 rfl ?_
    refine lv_topl (fun y7 ey7 => ?_)
    refine lv_ldiv hx hb dX6_shareOf_17 (by rw [ey7, ex6, ← ex1]; exact z_nzl c2) ?_
    refine lv_topl (fun y8 ey8 => ?_)
    refine lv_l2i hx hb dX6_shareOf_18 rfl ?_
    refine lv_topi (fun x9 ex9 => ?_)
    refine lv_goto (tgt := 23) hx hb dX6_shareOf_19 (by decide) ?_
    exact J4 _ (by subst ex9; subst ey8; subst ey7; subst ex6; subst ey5; subst ey4; subst ey3; exact (if_neg c2).symm) ls (lv_sub hl [0, 1, 2] rfl)

def fX6_add (M : zM) (i : Nat) (j : Nat) : zM :=
  let x1 := M i 0
  let x2 := M j 0
  let x3 := x1 + x2
  let M4 := zu M i 0 x3
  let x5 := M4 i 1
  let x6 := M4 j 1
  let x7 := x5 + x6
  let M8 := zu M4 i 1 x7
  let x9 := M8 i 2
  let x10 := M8 j 2
  let x11 := x9 + x10
  let M12 := zu M8 i 2 x11
  let x13 := M12 i 3
  let x14 := M12 j 3
  let x15 := x13 + x14
  let M16 := zu M12 i 3 x15
  M16
set_option maxHeartbeats 4000000 in
set_option maxRecDepth 100000 in
theorem m_X6_add (l : Launch) (dC : Nat → ClassId) (dI : Nat → Nat → Nat) (ca : Nat → ClassId) (ad : Nat → Nat) (hI : z_I zd ad) (M : zM) (i : Nat) (h_i : zk i = 6) (j : Nat) (h_j : zk j = 6) : Met l yX6_add wsX6_add ({ frames := 0, cells := 0, slots := 0, locals := 0 }) (z_Pc (dC, dI) vwCl (zt ca) zw_nest [.ref (ad i), .ref (ad j)] (fun H => zW dC dI ca ad M H)) (z_Qv (fun H => zW dC dI ca ad (fX6_add M i j) H) (z_A zd ad)) 0 0 (z_A zd ad) := by
  refine Met.ofW (cc := cX6_add) (maxL := 2) (ret := none) (by decide) rfl ?_
  intro p e s m args below meth c s₁ B hml hv
  obtain ⟨rfl, hH, hK, hN⟩ := hv
  have hx := B.exec
  have hb := B.bytes
  have hr := B.returns
  have hts := atoms_spec (ws := wsX6_add) B.pre
  have hown : s.vm.findClass RX6 = some m.cls := findClass_of_methodNamed B.named
  have hlocks := B.notSynchronized
  have hS : va_S (z_A zd ad) s.heap s.heap [] := va_S.rf
  have hH : z_H (dC, dI) vwCl zf ca zd ad M s.heap := hH
  have hinX6 : ∀ w ∈ u_ws RX6 TX6 4, w ∈ wsX6_add := by decide +kernel
  have hl := lv_entry ([.ref (ad i), .ref (ad j)]) (n := 2) (Nat.le_of_ble_eq_true rfl)
  rw [lg_entry_eq]
  generalize (lg_sl ([.ref (ad i), .ref (ad j)]) ++ List.replicate (2 - (lg_sl ([.ref (ad i), .ref (ad j)])).length) Slot.unset).toArray = ls at hl ⊢
  have hl : lv_has ls 2 [(0, .ref (ad i)), (1, .ref (ad j))] := hl
  refine lv_aload_n hx hb dX6_add_0 rfl (lv_at hl 0 rfl) ?_
  refine lv_dup hx hb dX6_add_1 rfl ?_
  refine z_gi (D := (dC, dI)) (cl := vwCl) (C := RX6) (T := TX6) (N := 4) (ci := 6) (k := 0) hx hb hts hinX6 hown hK hH h_i (by decide) rfl (by decide) rfl (hts (.fieldLink RX6 7 "Steamfield$Water" "mass" "I") (by decide +kernel)) (fun _ h9 => h9) dX6_add_2 ?_
  refine lv_topi (fun x1 ex1 => ?_)
  refine lv_aload_n hx hb dX6_add_5 rfl (lv_at hl 1 rfl) ?_
  refine z_gi (D := (dC, dI)) (cl := vwCl) (C := RX6) (T := TX6) (N := 4) (ci := 6) (k := 0) hx hb hts hinX6 hown hK hH h_j (by decide) rfl (by decide) rfl (hts (.fieldLink RX6 7 "Steamfield$Water" "mass" "I") (by decide +kernel)) (fun _ h9 => h9) dX6_add_6 ?_
  refine lv_topi (fun x2 ex2 => ?_)
  refine lv_iadd hx hb dX6_add_9 ?_
  refine lv_topi (fun x3 ex3 => ?_)
  refine zp_i (D := (dC, dI)) (cl := vwCl) (C := RX6) (T := TX6) (N := 4) (ci := 6) (k := 0) (ty := .int) hx hb hts hinX6 tyX6 tyX6_ok nmX6 hown hK hH hI hS (fun _ h => h) h_i (by decide) rfl (by decide) rfl (hts (.fieldLink RX6 7 "Steamfield$Water" "mass" "I") (by decide +kernel)) (fun _ h9 => h9) rfl (by decide +kernel) rfl rfl dX6_add_10 (fun H locs hH oq hS => ?_)
  obtain ⟨M4, hM4⟩ : ∃ z : zM, z = zu M i 0 x3 := ⟨_, rfl⟩
  rw [← hM4] at hH
  refine lv_aload_n hx hb dX6_add_13 rfl (lv_at hl 0 rfl) ?_
  refine lv_dup hx hb dX6_add_14 rfl ?_
  refine z_gi (D := (dC, dI)) (cl := vwCl) (C := RX6) (T := TX6) (N := 4) (ci := 6) (k := 1) hx hb hts hinX6 hown hK hH h_i (by decide) rfl (by decide) rfl (hts (.fieldLink RX6 13 "Steamfield$Water" "heat" "I") (by decide +kernel)) (fun _ h9 => h9) dX6_add_15 ?_
  refine lv_topi (fun x5 ex5 => ?_)
  refine lv_aload_n hx hb dX6_add_18 rfl (lv_at hl 1 rfl) ?_
  refine z_gi (D := (dC, dI)) (cl := vwCl) (C := RX6) (T := TX6) (N := 4) (ci := 6) (k := 1) hx hb hts hinX6 hown hK hH h_j (by decide) rfl (by decide) rfl (hts (.fieldLink RX6 13 "Steamfield$Water" "heat" "I") (by decide +kernel)) (fun _ h9 => h9) dX6_add_19 ?_
  refine lv_topi (fun x6 ex6 => ?_)
  refine lv_iadd hx hb dX6_add_22 ?_
  refine lv_topi (fun x7 ex7 => ?_)
  refine zp_i (D := (dC, dI)) (cl := vwCl) (C := RX6) (T := TX6) (N := 4) (ci := 6) (k := 1) (ty := .int) hx hb hts hinX6 tyX6 tyX6_ok nmX6 hown hK hH hI hS (fun _ h => h) h_i (by decide) rfl (by decide) rfl (hts (.fieldLink RX6 13 "Steamfield$Water" "heat" "I") (by decide +kernel)) (fun _ h9 => h9) rfl (by decide +kernel) rfl rfl dX6_add_23 (fun H locs hH oq hS => ?_)
  obtain ⟨M8, hM8⟩ : ∃ z : zM, z = zu M4 i 1 x7 := ⟨_, rfl⟩
  rw [← hM8] at hH
  refine lv_aload_n hx hb dX6_add_26 rfl (lv_at hl 0 rfl) ?_
  refine lv_dup hx hb dX6_add_27 rfl ?_
  refine z_gi (D := (dC, dI)) (cl := vwCl) (C := RX6) (T := TX6) (N := 4) (ci := 6) (k := 2) hx hb hts hinX6 hown hK hH h_i (by decide) rfl (by decide) rfl (hts (.fieldLink RX6 16 "Steamfield$Water" "salt" "I") (by decide +kernel)) (fun _ h9 => h9) dX6_add_28 ?_
  refine lv_topi (fun x9 ex9 => ?_)
  refine lv_aload_n hx hb dX6_add_31 rfl (lv_at hl 1 rfl) ?_
  refine z_gi (D := (dC, dI)) (cl := vwCl) (C := RX6) (T := TX6) (N := 4) (ci := 6) (k := 2) hx hb hts hinX6 hown hK hH h_j (by decide) rfl (by decide) rfl (hts (.fieldLink RX6 16 "Steamfield$Water" "salt" "I") (by decide +kernel)) (fun _ h9 => h9) dX6_add_32 ?_
  refine lv_topi (fun x10 ex10 => ?_)
  refine lv_iadd hx hb dX6_add_35 ?_
  refine lv_topi (fun x11 ex11 => ?_)
  refine zp_i (D := (dC, dI)) (cl := vwCl) (C := RX6) (T := TX6) (N := 4) (ci := 6) (k := 2) (ty := .int) hx hb hts hinX6 tyX6 tyX6_ok nmX6 hown hK hH hI hS (fun _ h => h) h_i (by decide) rfl (by decide) rfl (hts (.fieldLink RX6 16 "Steamfield$Water" "salt" "I") (by decide +kernel)) (fun _ h9 => h9) rfl (by decide +kernel) rfl rfl dX6_add_36 (fun H locs hH oq hS => ?_)
  obtain ⟨M12, hM12⟩ : ∃ z : zM, z = zu M8 i 2 x11 := ⟨_, rfl⟩
  rw [← hM12] at hH
  refine lv_aload_n hx hb dX6_add_39 rfl (lv_at hl 0 rfl) ?_
  refine lv_dup hx hb dX6_add_40 rfl ?_
  refine z_gi (D := (dC, dI)) (cl := vwCl) (C := RX6) (T := TX6) (N := 4) (ci := 6) (k := 3) hx hb hts hinX6 hown hK hH h_i (by decide) rfl (by decide) rfl (hts (.fieldLink RX6 19 "Steamfield$Water" "tracer" "I") (by decide +kernel)) (fun _ h9 => h9) dX6_add_41 ?_
  refine lv_topi (fun x13 ex13 => ?_)
  refine lv_aload_n hx hb dX6_add_44 rfl (lv_at hl 1 rfl) ?_
  refine z_gi (D := (dC, dI)) (cl := vwCl) (C := RX6) (T := TX6) (N := 4) (ci := 6) (k := 3) hx hb hts hinX6 hown hK hH h_j (by decide) rfl (by decide) rfl (hts (.fieldLink RX6 19 "Steamfield$Water" "tracer" "I") (by decide +kernel)) (fun _ h9 => h9) dX6_add_45 ?_
  refine lv_topi (fun x14 ex14 => ?_)
  refine lv_iadd hx hb dX6_add_48 ?_
  refine lv_topi (fun x15 ex15 => ?_)
  refine zp_i (D := (dC, dI)) (cl := vwCl) (C := RX6) (T := TX6) (N := 4) (ci := 6) (k := 3) (ty := .int) hx hb hts hinX6 tyX6 tyX6_ok nmX6 hown hK hH hI hS (fun _ h => h) h_i (by decide) rfl (by decide) rfl (hts (.fieldLink RX6 19 "Steamfield$Water" "tracer" "I") (by decide +kernel)) (fun _ h9 => h9) rfl (by decide +kernel) rfl rfl dX6_add_49 (fun H locs hH oq hS => ?_)
  obtain ⟨M16, hM16⟩ : ∃ z : zM, z = zu M12 i 3 x15 := ⟨_, rfl⟩
  rw [← hM16] at hH
  have hF : zW dC dI ca ad (fX6_add M i j) H := by have e9 : M16 = fX6_add M i j := by subst hM16; subst ex15; subst ex14; subst ex13; subst hM12; subst ex11; subst ex10; subst ex9; subst hM8; subst ex7; subst ex6; subst ex5; subst hM4; subst ex3; subst ex2; subst ex1; rfl
    rw [← e9]; exact hH
  exact W.vret hx hb hr (fun t ht hW => ⟨⟨(), rfl, trivial, by rw [ht]; exact hF⟩, hS.F ht⟩) hS.2.2 dX6_add_52

def fX6_remove (M : zM) (i : Nat) (j : Nat) : zM :=
  let x1 := M i 0
  let x2 := M j 0
  let x3 := x1 - x2
  let M4 := zu M i 0 x3
  let x5 := M4 i 1
  let x6 := M4 j 1
  let x7 := x5 - x6
  let M8 := zu M4 i 1 x7
  let x9 := M8 i 2
  let x10 := M8 j 2
  let x11 := x9 - x10
  let M12 := zu M8 i 2 x11
  let x13 := M12 i 3
  let x14 := M12 j 3
  let x15 := x13 - x14
  let M16 := zu M12 i 3 x15
  M16
set_option maxHeartbeats 4000000 in
set_option maxRecDepth 100000 in
theorem m_X6_remove (l : Launch) (dC : Nat → ClassId) (dI : Nat → Nat → Nat) (ca : Nat → ClassId) (ad : Nat → Nat) (hI : z_I zd ad) (M : zM) (i : Nat) (h_i : zk i = 6) (j : Nat) (h_j : zk j = 6) : Met l yX6_remove wsX6_remove ({ frames := 0, cells := 0, slots := 0, locals := 0 }) (z_Pc (dC, dI) vwCl (zt ca) zw_nest [.ref (ad i), .ref (ad j)] (fun H => zW dC dI ca ad M H)) (z_Qv (fun H => zW dC dI ca ad (fX6_remove M i j) H) (z_A zd ad)) 0 0 (z_A zd ad) := by
  refine Met.ofW (cc := cX6_remove) (maxL := 2) (ret := none) (by decide) rfl ?_
  intro p e s m args below meth c s₁ B hml hv
  obtain ⟨rfl, hH, hK, hN⟩ := hv
  have hx := B.exec
  have hb := B.bytes
  have hr := B.returns
  have hts := atoms_spec (ws := wsX6_remove) B.pre
  have hown : s.vm.findClass RX6 = some m.cls := findClass_of_methodNamed B.named
  have hlocks := B.notSynchronized
  have hS : va_S (z_A zd ad) s.heap s.heap [] := va_S.rf
  have hH : z_H (dC, dI) vwCl zf ca zd ad M s.heap := hH
  have hinX6 : ∀ w ∈ u_ws RX6 TX6 4, w ∈ wsX6_remove := by decide +kernel
  have hl := lv_entry ([.ref (ad i), .ref (ad j)]) (n := 2) (Nat.le_of_ble_eq_true rfl)
  rw [lg_entry_eq]
  generalize (lg_sl ([.ref (ad i), .ref (ad j)]) ++ List.replicate (2 - (lg_sl ([.ref (ad i), .ref (ad j)])).length) Slot.unset).toArray = ls at hl ⊢
  have hl : lv_has ls 2 [(0, .ref (ad i)), (1, .ref (ad j))] := hl
  refine lv_aload_n hx hb dX6_remove_0 rfl (lv_at hl 0 rfl) ?_
  refine lv_dup hx hb dX6_remove_1 rfl ?_
  refine z_gi (D := (dC, dI)) (cl := vwCl) (C := RX6) (T := TX6) (N := 4) (ci := 6) (k := 0) hx hb hts hinX6 hown hK hH h_i (by decide) rfl (by decide) rfl (hts (.fieldLink RX6 7 "Steamfield$Water" "mass" "I") (by decide +kernel)) (fun _ h9 => h9) dX6_remove_2 ?_
  refine lv_topi (fun x1 ex1 => ?_)
  refine lv_aload_n hx hb dX6_remove_5 rfl (lv_at hl 1 rfl) ?_
  refine z_gi (D := (dC, dI)) (cl := vwCl) (C := RX6) (T := TX6) (N := 4) (ci := 6) (k := 0) hx hb hts hinX6 hown hK hH h_j (by decide) rfl (by decide) rfl (hts (.fieldLink RX6 7 "Steamfield$Water" "mass" "I") (by decide +kernel)) (fun _ h9 => h9) dX6_remove_6 ?_
  refine lv_topi (fun x2 ex2 => ?_)
  refine lv_isub hx hb dX6_remove_9 ?_
  refine lv_topi (fun x3 ex3 => ?_)
  refine zp_i (D := (dC, dI)) (cl := vwCl) (C := RX6) (T := TX6) (N := 4) (ci := 6) (k := 0) (ty := .int) hx hb hts hinX6 tyX6 tyX6_ok nmX6 hown hK hH hI hS (fun _ h => h) h_i (by decide) rfl (by decide) rfl (hts (.fieldLink RX6 7 "Steamfield$Water" "mass" "I") (by decide +kernel)) (fun _ h9 => h9) rfl (by decide +kernel) rfl rfl dX6_remove_10 (fun H locs hH oq hS => ?_)
  obtain ⟨M4, hM4⟩ : ∃ z : zM, z = zu M i 0 x3 := ⟨_, rfl⟩
  rw [← hM4] at hH
  refine lv_aload_n hx hb dX6_remove_13 rfl (lv_at hl 0 rfl) ?_
  refine lv_dup hx hb dX6_remove_14 rfl ?_
  refine z_gi (D := (dC, dI)) (cl := vwCl) (C := RX6) (T := TX6) (N := 4) (ci := 6) (k := 1) hx hb hts hinX6 hown hK hH h_i (by decide) rfl (by decide) rfl (hts (.fieldLink RX6 13 "Steamfield$Water" "heat" "I") (by decide +kernel)) (fun _ h9 => h9) dX6_remove_15 ?_
  refine lv_topi (fun x5 ex5 => ?_)
  refine lv_aload_n hx hb dX6_remove_18 rfl (lv_at hl 1 rfl) ?_
  refine z_gi (D := (dC, dI)) (cl := vwCl) (C := RX6) (T := TX6) (N := 4) (ci := 6) (k := 1) hx hb hts hinX6 hown hK hH h_j (by decide) rfl (by decide) rfl (hts (.fieldLink RX6 13 "Steamfield$Water" "heat" "I") (by decide +kernel)) (fun _ h9 => h9) dX6_remove_19 ?_
  refine lv_topi (fun x6 ex6 => ?_)
  refine lv_isub hx hb dX6_remove_22 ?_
  refine lv_topi (fun x7 ex7 => ?_)
  refine zp_i (D := (dC, dI)) (cl := vwCl) (C := RX6) (T := TX6) (N := 4) (ci := 6) (k := 1) (ty := .int) hx hb hts hinX6 tyX6 tyX6_ok nmX6 hown hK hH hI hS (fun _ h => h) h_i (by decide) rfl (by decide) rfl (hts (.fieldLink RX6 13 "Steamfield$Water" "heat" "I") (by decide +kernel)) (fun _ h9 => h9) rfl (by decide +kernel) rfl rfl dX6_remove_23 (fun H locs hH oq hS => ?_)
  obtain ⟨M8, hM8⟩ : ∃ z : zM, z = zu M4 i 1 x7 := ⟨_, rfl⟩
  rw [← hM8] at hH
  refine lv_aload_n hx hb dX6_remove_26 rfl (lv_at hl 0 rfl) ?_
  refine lv_dup hx hb dX6_remove_27 rfl ?_
  refine z_gi (D := (dC, dI)) (cl := vwCl) (C := RX6) (T := TX6) (N := 4) (ci := 6) (k := 2) hx hb hts hinX6 hown hK hH h_i (by decide) rfl (by decide) rfl (hts (.fieldLink RX6 16 "Steamfield$Water" "salt" "I") (by decide +kernel)) (fun _ h9 => h9) dX6_remove_28 ?_
  refine lv_topi (fun x9 ex9 => ?_)
  refine lv_aload_n hx hb dX6_remove_31 rfl (lv_at hl 1 rfl) ?_
  refine z_gi (D := (dC, dI)) (cl := vwCl) (C := RX6) (T := TX6) (N := 4) (ci := 6) (k := 2) hx hb hts hinX6 hown hK hH h_j (by decide) rfl (by decide) rfl (hts (.fieldLink RX6 16 "Steamfield$Water" "salt" "I") (by decide +kernel)) (fun _ h9 => h9) dX6_remove_32 ?_
  refine lv_topi (fun x10 ex10 => ?_)
  refine lv_isub hx hb dX6_remove_35 ?_
  refine lv_topi (fun x11 ex11 => ?_)
  refine zp_i (D := (dC, dI)) (cl := vwCl) (C := RX6) (T := TX6) (N := 4) (ci := 6) (k := 2) (ty := .int) hx hb hts hinX6 tyX6 tyX6_ok nmX6 hown hK hH hI hS (fun _ h => h) h_i (by decide) rfl (by decide) rfl (hts (.fieldLink RX6 16 "Steamfield$Water" "salt" "I") (by decide +kernel)) (fun _ h9 => h9) rfl (by decide +kernel) rfl rfl dX6_remove_36 (fun H locs hH oq hS => ?_)
  obtain ⟨M12, hM12⟩ : ∃ z : zM, z = zu M8 i 2 x11 := ⟨_, rfl⟩
  rw [← hM12] at hH
  refine lv_aload_n hx hb dX6_remove_39 rfl (lv_at hl 0 rfl) ?_
  refine lv_dup hx hb dX6_remove_40 rfl ?_
  refine z_gi (D := (dC, dI)) (cl := vwCl) (C := RX6) (T := TX6) (N := 4) (ci := 6) (k := 3) hx hb hts hinX6 hown hK hH h_i (by decide) rfl (by decide) rfl (hts (.fieldLink RX6 19 "Steamfield$Water" "tracer" "I") (by decide +kernel)) (fun _ h9 => h9) dX6_remove_41 ?_
  refine lv_topi (fun x13 ex13 => ?_)
  refine lv_aload_n hx hb dX6_remove_44 rfl (lv_at hl 1 rfl) ?_
  refine z_gi (D := (dC, dI)) (cl := vwCl) (C := RX6) (T := TX6) (N := 4) (ci := 6) (k := 3) hx hb hts hinX6 hown hK hH h_j (by decide) rfl (by decide) rfl (hts (.fieldLink RX6 19 "Steamfield$Water" "tracer" "I") (by decide +kernel)) (fun _ h9 => h9) dX6_remove_45 ?_
  refine lv_topi (fun x14 ex14 => ?_)
  refine lv_isub hx hb dX6_remove_48 ?_
  refine lv_topi (fun x15 ex15 => ?_)
  refine zp_i (D := (dC, dI)) (cl := vwCl) (C := RX6) (T := TX6) (N := 4) (ci := 6) (k := 3) (ty := .int) hx hb hts hinX6 tyX6 tyX6_ok nmX6 hown hK hH hI hS (fun _ h => h) h_i (by decide) rfl (by decide) rfl (hts (.fieldLink RX6 19 "Steamfield$Water" "tracer" "I") (by decide +kernel)) (fun _ h9 => h9) rfl (by decide +kernel) rfl rfl dX6_remove_49 (fun H locs hH oq hS => ?_)
  obtain ⟨M16, hM16⟩ : ∃ z : zM, z = zu M12 i 3 x15 := ⟨_, rfl⟩
  rw [← hM16] at hH
  have hF : zW dC dI ca ad (fX6_remove M i j) H := by have e9 : M16 = fX6_remove M i j := by subst hM16; subst ex15; subst ex14; subst ex13; subst hM12; subst ex11; subst ex10; subst ex9; subst hM8; subst ex7; subst ex6; subst ex5; subst hM4; subst ex3; subst ex2; subst ex1; rfl
    rw [← e9]; exact hH
  exact W.vret hx hb hr (fun t ht hW => ⟨⟨(), rfl, trivial, by rw [ht]; exact hF⟩, hS.F ht⟩) hS.2.2 dX6_remove_52

