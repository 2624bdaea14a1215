/-! ===== the reference's field: 0 itself, 1 blocks (rows 2 ..), 10 faces (11 ..), 23 wells (24 ..), 30 springs (31 ..), 34 pond, 35 told, 36 spilled, 37 gone, 38 coins, 39 shocks, 40 taken ===== -/
def yn (i : Nat) : Nat := if i = 1 then 8 else if i < 10 then 6 else if i = 10 then 12 else if i < 23 then 4 else if i = 23 then 6 else if i < 30 then 9 else if i = 30 then 3 else if i < 34 then 7 else if i = 34 then 6 else if i = 38 then 2 else if i = 40 then 6 else 4
def yde : zD := (fun _ => 999, fun _ _ => none, yn)
def yd0 : zD := zdk yde 0 9
def yd1m : zD := zdm yd0 1 8
def yd1 : zD := zdr yd1m 0 0 1
def yd2m : zD := zdm yd1 10 12
def yd2 : zD := zdr yd2m 0 1 10
def yd3m : zD := zdm yd2 23 6
def yd3 : zD := zdr yd3m 0 2 23
def yd4m : zD := zdm yd3 30 3
def yd4 : zD := zdr yd4m 0 3 30
def yd5m : zD := zdk yd4 34 100
def yd5 : zD := zdr yd5m 0 8 34
def yd6m : zD := zdk yd5 35 100
def yd6 : zD := zdr yd6m 0 9 35
def yd7m : zD := zdk yd6 36 100
def yd7 : zD := zdr yd7m 0 10 36
def yd8m : zD := zdk yd7 37 100
def yd8 : zD := zdr yd8m 0 11 37
def yd9m : zD := zdk yd8 38 100
def yd9 : zD := zdr yd9m 0 12 38
def yd10m : zD := zdk yd9 39 100
def yd10 : zD := zdr yd10m 0 13 39
def yd11m : zD := zdk yd10 40 100
def yd11 : zD := zdr yd11m 0 23 40
abbrev yd : zD := yd11
def yad (f sz i : Nat) : Nat := if i = 0 then f else sz + (i - 1)
theorem yad_inj {f sz : Nat} (h : f < sz) (a b : Nat) (e : yad f sz a = yad f sz b) : a = b := by
  unfold yad at e
  by_cases ha : a = 0 <;> by_cases hb : b = 0
  · omega
  · rw [if_pos ha, if_neg hb] at e; omega
  · rw [if_neg ha, if_pos hb] at e; omega
  · rw [if_neg ha, if_neg hb] at e; omega
theorem yad_I {wd : zD} {f sz : Nat} (h : f < sz) : z_I wd (yad f sz) := fun i j _ _ e => yad_inj h i j e
theorem yad_A {f sz : Nat} (i : Nat) : yad f sz i = f ∨ sz ≤ yad f sz i := by
  unfold yad
  by_cases h : i = 0
  · rw [if_pos h]; exact Or.inl rfl
  · rw [if_neg h]; exact Or.inr (by omega)
def yf : Nat → List Bool
  | 9 => [true, true, true, true, false, false, false, false, true, true, true, true, true, true, false, false, false, false, false, false, false, false, false, true]
  | _ => []
def yM0 : zM := zu (zu (zu (zu zM0 38 0 100) 38 1 100) 0 14 20) 0 16 1
/-- now alone goes on -/
def yM (n : Nat) : zM := zu yM0 0 17 (nI n)
theorem yM_0 : yM 0 = yM0 := zu_same rfl
abbrev yt (ca : Nat → ClassId) : List (ClassId × FieldType) := [(ca 100, .int), (ca 105, .array .int)]
abbrev yW (dC : Nat → ClassId) (dI : Nat → Nat → Nat) (ca : Nat → ClassId) (ad : Nat → Nat) (M : zM) (H : Heap) : Prop := z_H (dC, dI) vwCl yf ca yd ad M H
theorem yk_0 : yd.1 0 = 9 := by decide
theorem yk_1 : yd.1 1 = 105 := by decide
theorem yk_2 : yd.1 2 = 100 := by decide
theorem yk_3 : yd.1 3 = 100 := by decide
theorem yk_4 : yd.1 4 = 100 := by decide
theorem yk_5 : yd.1 5 = 100 := by decide
theorem yk_6 : yd.1 6 = 100 := by decide
theorem yk_7 : yd.1 7 = 100 := by decide
theorem yk_8 : yd.1 8 = 100 := by decide
theorem yk_9 : yd.1 9 = 100 := by decide
theorem yk_10 : yd.1 10 = 105 := by decide
theorem yk_11 : yd.1 11 = 100 := by decide
theorem yk_12 : yd.1 12 = 100 := by decide
theorem yk_13 : yd.1 13 = 100 := by decide
theorem yk_14 : yd.1 14 = 100 := by decide
theorem yk_15 : yd.1 15 = 100 := by decide
theorem yk_16 : yd.1 16 = 100 := by decide
theorem yk_17 : yd.1 17 = 100 := by decide
theorem yk_18 : yd.1 18 = 100 := by decide
theorem yk_19 : yd.1 19 = 100 := by decide
theorem yk_20 : yd.1 20 = 100 := by decide
theorem yk_21 : yd.1 21 = 100 := by decide
theorem yk_22 : yd.1 22 = 100 := by decide
theorem yk_23 : yd.1 23 = 105 := by decide
theorem yk_24 : yd.1 24 = 100 := by decide
theorem yk_25 : yd.1 25 = 100 := by decide
theorem yk_26 : yd.1 26 = 100 := by decide
theorem yk_27 : yd.1 27 = 100 := by decide
theorem yk_28 : yd.1 28 = 100 := by decide
theorem yk_29 : yd.1 29 = 100 := by decide
theorem yk_30 : yd.1 30 = 105 := by decide
theorem yk_31 : yd.1 31 = 100 := by decide
theorem yk_32 : yd.1 32 = 100 := by decide
theorem yk_33 : yd.1 33 = 100 := by decide
theorem yk_34 : yd.1 34 = 100 := by decide
theorem yk_35 : yd.1 35 = 100 := by decide
theorem yk_36 : yd.1 36 = 100 := by decide
theorem yk_37 : yd.1 37 = 100 := by decide
theorem yk_38 : yd.1 38 = 100 := by decide
theorem yk_39 : yd.1 39 = 100 := by decide
theorem yk_40 : yd.1 40 = 100 := by decide
theorem yr_0 : yd.2.1 0 0 = some 1 := by decide
theorem yr_1 : yd.2.1 0 1 = some 10 := by decide
theorem yr_2 : yd.2.1 0 2 = some 23 := by decide
theorem yr_3 : yd.2.1 0 3 = some 30 := by decide
theorem yr_8 : yd.2.1 0 8 = some 34 := by decide
theorem yr_9 : yd.2.1 0 9 = some 35 := by decide
theorem yr_10 : yd.2.1 0 10 = some 36 := by decide
theorem yr_11 : yd.2.1 0 11 = some 37 := by decide
theorem yr_12 : yd.2.1 0 12 = some 38 := by decide
theorem yr_13 : yd.2.1 0 13 = some 39 := by decide
theorem yr_23 : yd.2.1 0 23 = some 40 := by decide
theorem yk_out {i : Nat} (h : yd.1 i < 200) : i < 41 := by
  rcases Nat.lt_or_ge i 41 with h1 | h1
  · exact h1
  · exfalso
    have : yd.1 i = 999 := by
      simp only [yd, yd11, yd11m, yd10, yd10m, yd9, yd9m, yd8, yd8m, yd7, yd7m, yd6, yd6m, yd5, yd5m, yd4, yd4m, yd3, yd3m, yd2, yd2m, yd1, yd1m, yd0, yde, zdk, zdr, zdm]
      repeat rw [if_neg (by omega)]
    omega
theorem y_born : ∀ j, j < 24 → defaultValue (tyX9 j) = vp_V (z_fl (fun _ => none) (fun _ => 0) (yf 9) 0) j := fun j hj => of_decide_eq_true (List.all_eq_true.mp (show (List.range 24).all (fun j => decide (defaultValue (tyX9 j) = vp_V (z_fl (fun _ => none) (fun _ => 0) (yf 9) 0) j)) = true by decide) j (List.mem_range.mpr hj))
set_option maxHeartbeats 4000000 in
set_option maxRecDepth 100000 in
theorem m_X9_init (l : Launch) (dC : Nat → ClassId) (dI : Nat → Nat → Nat) (ca : Nat → ClassId) (f sz : Nat) (hl0 : f < sz) : Met l yX9_init wsX9_init ({ frames := 1, cells := 40, slots := 230, locals := 12 }) (z_Py (dC, dI) vwCl (yt ca) zw_nest [.ref f] (fun H => H.size = sz ∧ z_H (dC, dI) vwCl yf ca yd0 (yad f sz) zM0 H)) (z_Qv (fun H => H.size = sz + 40 ∧ yW dC dI ca (yad f sz) yM0 H) (fun q => q = f ∨ sz ≤ q)) 40 230 (fun q => q = f ∨ sz ≤ q) := by
  refine Met.ofW (cc := cX9_init) (maxL := 1) (ret := none) (by decide) rfl ?_
  intro p e s m args below meth c s₁ B9 hml hv
  obtain ⟨rfl, ⟨hz, hH⟩, hK, hN, hX⟩ := hv
  have hx := B9.exec
  have hb := B9.bytes
  have hr := B9.returns
  have hts := atoms_spec (ws := wsX9_init) B9.pre
  have hown : s.vm.findClass RX9 = some m.cls := findClass_of_methodNamed B9.named
  have hlocks := B9.notSynchronized
  have hin2 : meth.name = "<init>" := (name_of_methodNamed B9.named B9.method).1
  have hS : va_S (fun q => q = f ∨ sz ≤ q) s.heap s.heap [] := va_S.rf
  have hA : ∀ q, s.heap.size ≤ q → (fun q => q = f ∨ sz ≤ q) q := fun q h => Or.inr (by rw [hz] at h; exact h)
  have hinX9 : ∀ w ∈ u_ws RX9 TX9 24, w ∈ wsX9_init := by decide +kernel
  have hl := lv_entry ([.ref f]) (n := 1) (Nat.le_of_ble_eq_true rfl)
  rw [lg_entry_eq]
  generalize (lg_sl ([.ref f]) ++ List.replicate (1 - (lg_sl ([.ref f])).length) Slot.unset).toArray = ls at hl ⊢
  have hl : lv_has ls 1 [(0, .ref (yad f sz 0))] := hl
  refine lv_aload_n hx hb dX9_init_0 rfl (lv_at hl 0 rfl) ?_
  refine W.objInit hx hb hown (hts (.methodLink RX9 3 objectInit) (by decide +kernel)) (hts (.instanceMethod objectInit) (by decide +kernel)) (hts _ (List.mem_of_getElem? (i := 3) rfl)) rfl (by rw [hml]; exact hl.1) rfl dX9_init_1 (Nat.le_of_ble_eq_true rfl) (Nat.le_of_ble_eq_true rfl) ?_
  refine W.eq (g2 := F0 m 4 ls []) rfl ?_
  refine lv_aload_n hx hb dX9_init_4 rfl (lv_at hl 0 rfl) ?_
  refine lv_bipush (v := 8) hx hb dX9_init_5 (by decide) ?_
  refine lv_bipush (v := 6) hx hb dX9_init_7 (by decide) ?_
  refine y_mna (D := (dC, dI)) (cl := vwCl) (fl := yf) (ca := ca) (ad := yad f sz) (M := zM0) (i := 1) (N' := 8) (K' := 6) (t0 := 0) (t1 := 1) hx hb hown (hts (.classLink RX9 9 "[[I") (by decide +kernel)) hX (hts (.arrayClass .int) (by decide +kernel)) hK rfl rfl hH hS hA (fun j _ => by unfold yad; rw [if_neg (by omega), hz]; omega) (fun _ _ _ => rfl) rfl (by decide) (fun _ => rfl) (by decide) (by decide) (by decide) (by decide) (by decide) (by decide) (by decide) (Nat.le_of_ble_eq_true rfl) (Nat.le_of_ble_eq_true rfl) dX9_init_9 (fun H hH z1 o1 hS => ?_)
  have hz : H.size = sz + 9 := by omega
  have hH : z_H (dC, dI) vwCl yf ca yd1m (yad f sz) zM0 H := hH
  refine z_prF (D := (dC, dI)) (cl := vwCl) (fl := yf) (ca := ca) (ad := yad f sz) (C := RX9) (T := TX9) (N := 24) (ci := 9) (i := 0) (k := 0) (j := 1) (ty := tyX9 0) hx hb hts hinX9 tyX9 tyX9_ok nmX9 hown hK hH (fun a _ e9 => yad_inj hl0 a 0 e9) hS (Or.inl rfl) (by decide) (by decide) rfl (by decide) rfl (hts (.fieldLink RX9 11 "SteamfieldModel$Field" "blocks" "[[I") (by decide +kernel)) (fun _ h9 => h9) rfl hin2 rfl (tyX9_ok 0 (by decide)) rfl rfl dX9_init_13 (fun H locs hH z2 oq hS => ?_)
  have hz : H.size = sz + 9 := by omega
  have hH : z_H (dC, dI) vwCl yf ca yd1 (yad f sz) zM0 H := hH
  refine lv_aload_n hx hb dX9_init_16 rfl (lv_at hl 0 rfl) ?_
  refine lv_bipush (v := 12) hx hb dX9_init_17 (by decide) ?_
  refine lv_iconst (v := 4) hx hb dX9_init_19 (by decide) ?_
  refine y_mna (D := (dC, dI)) (cl := vwCl) (fl := yf) (ca := ca) (ad := yad f sz) (M := zM0) (i := 10) (N' := 12) (K' := 4) (t0 := 0) (t1 := 1) hx hb hown (hts (.classLink RX9 9 "[[I") (by decide +kernel)) hX (hts (.arrayClass .int) (by decide +kernel)) hK rfl rfl hH hS hA (fun j _ => by unfold yad; rw [if_neg (by omega), hz]; omega) (fun _ _ _ => rfl) rfl (by decide) (fun _ => rfl) (by decide) (by decide) (by decide) (by decide) (by decide) (by decide) (by decide) (Nat.le_of_ble_eq_true rfl) (Nat.le_of_ble_eq_true rfl) dX9_init_20 (fun H hH z1 o1 hS => ?_)
  have hz : H.size = sz + 22 := by omega
  have hH : z_H (dC, dI) vwCl yf ca yd2m (yad f sz) zM0 H := hH
  refine z_prF (D := (dC, dI)) (cl := vwCl) (fl := yf) (ca := ca) (ad := yad f sz) (C := RX9) (T := TX9) (N := 24) (ci := 9) (i := 0) (k := 1) (j := 10) (ty := tyX9 1) hx hb hts hinX9 tyX9 tyX9_ok nmX9 hown hK hH (fun a _ e9 => yad_inj hl0 a 0 e9) hS (Or.inl rfl) (by decide) (by decide) rfl (by decide) rfl (hts (.fieldLink RX9 16 "SteamfieldModel$Field" "faces" "[[I") (by decide +kernel)) (fun _ h9 => h9) rfl hin2 rfl (tyX9_ok 1 (by decide)) rfl rfl dX9_init_24 (fun H locs hH z2 oq hS => ?_)
  have hz : H.size = sz + 22 := by omega
  have hH : z_H (dC, dI) vwCl yf ca yd2 (yad f sz) zM0 H := hH
  refine lv_aload_n hx hb dX9_init_27 rfl (lv_at hl 0 rfl) ?_
  refine lv_bipush (v := 6) hx hb dX9_init_28 (by decide) ?_
  refine lv_bipush (v := 9) hx hb dX9_init_30 (by decide) ?_
  refine y_mna (D := (dC, dI)) (cl := vwCl) (fl := yf) (ca := ca) (ad := yad f sz) (M := zM0) (i := 23) (N' := 6) (K' := 9) (t0 := 0) (t1 := 1) hx hb hown (hts (.classLink RX9 9 "[[I") (by decide +kernel)) hX (hts (.arrayClass .int) (by decide +kernel)) hK rfl rfl hH hS hA (fun j _ => by unfold yad; rw [if_neg (by omega), hz]; omega) (fun _ _ _ => rfl) rfl (by decide) (fun _ => rfl) (by decide) (by decide) (by decide) (by decide) (by decide) (by decide) (by decide) (Nat.le_of_ble_eq_true rfl) (Nat.le_of_ble_eq_true rfl) dX9_init_32 (fun H hH z1 o1 hS => ?_)
  have hz : H.size = sz + 29 := by omega
  have hH : z_H (dC, dI) vwCl yf ca yd3m (yad f sz) zM0 H := hH
  refine z_prF (D := (dC, dI)) (cl := vwCl) (fl := yf) (ca := ca) (ad := yad f sz) (C := RX9) (T := TX9) (N := 24) (ci := 9) (i := 0) (k := 2) (j := 23) (ty := tyX9 2) hx hb hts hinX9 tyX9 tyX9_ok nmX9 hown hK hH (fun a _ e9 => yad_inj hl0 a 0 e9) hS (Or.inl rfl) (by decide) (by decide) rfl (by decide) rfl (hts (.fieldLink RX9 19 "SteamfieldModel$Field" "wells" "[[I") (by decide +kernel)) (fun _ h9 => h9) rfl hin2 rfl (tyX9_ok 2 (by decide)) rfl rfl dX9_init_36 (fun H locs hH z2 oq hS => ?_)
  have hz : H.size = sz + 29 := by omega
  have hH : z_H (dC, dI) vwCl yf ca yd3 (yad f sz) zM0 H := hH
  refine lv_aload_n hx hb dX9_init_39 rfl (lv_at hl 0 rfl) ?_
  refine lv_iconst (v := 3) hx hb dX9_init_40 (by decide) ?_
  refine lv_bipush (v := 7) hx hb dX9_init_41 (by decide) ?_
  refine y_mna (D := (dC, dI)) (cl := vwCl) (fl := yf) (ca := ca) (ad := yad f sz) (M := zM0) (i := 30) (N' := 3) (K' := 7) (t0 := 0) (t1 := 1) hx hb hown (hts (.classLink RX9 9 "[[I") (by decide +kernel)) hX (hts (.arrayClass .int) (by decide +kernel)) hK rfl rfl hH hS hA (fun j _ => by unfold yad; rw [if_neg (by omega), hz]; omega) (fun _ _ _ => rfl) rfl (by decide) (fun _ => rfl) (by decide) (by decide) (by decide) (by decide) (by decide) (by decide) (by decide) (Nat.le_of_ble_eq_true rfl) (Nat.le_of_ble_eq_true rfl) dX9_init_43 (fun H hH z1 o1 hS => ?_)
  have hz : H.size = sz + 33 := by omega
  have hH : z_H (dC, dI) vwCl yf ca yd4m (yad f sz) zM0 H := hH
  refine z_prF (D := (dC, dI)) (cl := vwCl) (fl := yf) (ca := ca) (ad := yad f sz) (C := RX9) (T := TX9) (N := 24) (ci := 9) (i := 0) (k := 3) (j := 30) (ty := tyX9 3) hx hb hts hinX9 tyX9 tyX9_ok nmX9 hown hK hH (fun a _ e9 => yad_inj hl0 a 0 e9) hS (Or.inl rfl) (by decide) (by decide) rfl (by decide) rfl (hts (.fieldLink RX9 22 "SteamfieldModel$Field" "springs" "[[I") (by decide +kernel)) (fun _ h9 => h9) rfl hin2 rfl (tyX9_ok 3 (by decide)) rfl rfl dX9_init_47 (fun H locs hH z2 oq hS => ?_)
  have hz : H.size = sz + 33 := by omega
  have hH : z_H (dC, dI) vwCl yf ca yd4 (yad f sz) zM0 H := hH
  refine lv_aload_n hx hb dX9_init_50 rfl (lv_at hl 0 rfl) ?_
  refine lv_bipush (v := 6) hx hb dX9_init_51 (by decide) ?_
  refine z_newi (D := (dC, dI)) (cl := vwCl) (fl := yf) (ca := ca) (ad := yad f sz) (i := 34) (N' := 6) (t0 := 0) hx hb (hts (.arrayClass .int) (by decide +kernel)) hK rfl hH hS hA (by unfold yad; rw [if_neg (by decide), hz]) (fun _ => rfl) rfl (by decide) (by decide) (by decide) (Nat.le_of_ble_eq_true rfl) (Nat.le_of_ble_eq_true rfl) dX9_init_53 (fun H hH z1 o1 hS => ?_)
  have hz : H.size = sz + 34 := by omega
  have hH : z_H (dC, dI) vwCl yf ca yd5m (yad f sz) zM0 H := hH
  refine z_prF (D := (dC, dI)) (cl := vwCl) (fl := yf) (ca := ca) (ad := yad f sz) (C := RX9) (T := TX9) (N := 24) (ci := 9) (i := 0) (k := 8) (j := 34) (ty := tyX9 8) hx hb hts hinX9 tyX9 tyX9_ok nmX9 hown hK hH (fun a _ e9 => yad_inj hl0 a 0 e9) hS (Or.inl rfl) (by decide) (by decide) rfl (by decide) rfl (hts (.fieldLink RX9 25 "SteamfieldModel$Field" "pond" "[I") (by decide +kernel)) (fun _ h9 => h9) rfl hin2 rfl (tyX9_ok 8 (by decide)) rfl rfl dX9_init_55 (fun H locs hH z2 oq hS => ?_)
  have hz : H.size = sz + 34 := by omega
  have hH : z_H (dC, dI) vwCl yf ca yd5 (yad f sz) zM0 H := hH
  refine lv_aload_n hx hb dX9_init_58 rfl (lv_at hl 0 rfl) ?_
  refine lv_iconst (v := 4) hx hb dX9_init_59 (by decide) ?_
  refine z_newi (D := (dC, dI)) (cl := vwCl) (fl := yf) (ca := ca) (ad := yad f sz) (i := 35) (N' := 4) (t0 := 0) hx hb (hts (.arrayClass .int) (by decide +kernel)) hK rfl hH hS hA (by unfold yad; rw [if_neg (by decide), hz]) (fun _ => rfl) rfl (by decide) (by decide) (by decide) (Nat.le_of_ble_eq_true rfl) (Nat.le_of_ble_eq_true rfl) dX9_init_60 (fun H hH z1 o1 hS => ?_)
  have hz : H.size = sz + 35 := by omega
  have hH : z_H (dC, dI) vwCl yf ca yd6m (yad f sz) zM0 H := hH
  refine z_prF (D := (dC, dI)) (cl := vwCl) (fl := yf) (ca := ca) (ad := yad f sz) (C := RX9) (T := TX9) (N := 24) (ci := 9) (i := 0) (k := 9) (j := 35) (ty := tyX9 9) hx hb hts hinX9 tyX9 tyX9_ok nmX9 hown hK hH (fun a _ e9 => yad_inj hl0 a 0 e9) hS (Or.inl rfl) (by decide) (by decide) rfl (by decide) rfl (hts (.fieldLink RX9 29 "SteamfieldModel$Field" "told" "[I") (by decide +kernel)) (fun _ h9 => h9) rfl hin2 rfl (tyX9_ok 9 (by decide)) rfl rfl dX9_init_62 (fun H locs hH z2 oq hS => ?_)
  have hz : H.size = sz + 35 := by omega
  have hH : z_H (dC, dI) vwCl yf ca yd6 (yad f sz) zM0 H := hH
  refine lv_aload_n hx hb dX9_init_65 rfl (lv_at hl 0 rfl) ?_
  refine lv_iconst (v := 4) hx hb dX9_init_66 (by decide) ?_
  refine z_newi (D := (dC, dI)) (cl := vwCl) (fl := yf) (ca := ca) (ad := yad f sz) (i := 36) (N' := 4) (t0 := 0) hx hb (hts (.arrayClass .int) (by decide +kernel)) hK rfl hH hS hA (by unfold yad; rw [if_neg (by decide), hz]) (fun _ => rfl) rfl (by decide) (by decide) (by decide) (Nat.le_of_ble_eq_true rfl) (Nat.le_of_ble_eq_true rfl) dX9_init_67 (fun H hH z1 o1 hS => ?_)
  have hz : H.size = sz + 36 := by omega
  have hH : z_H (dC, dI) vwCl yf ca yd7m (yad f sz) zM0 H := hH
  refine z_prF (D := (dC, dI)) (cl := vwCl) (fl := yf) (ca := ca) (ad := yad f sz) (C := RX9) (T := TX9) (N := 24) (ci := 9) (i := 0) (k := 10) (j := 36) (ty := tyX9 10) hx hb hts hinX9 tyX9 tyX9_ok nmX9 hown hK hH (fun a _ e9 => yad_inj hl0 a 0 e9) hS (Or.inl rfl) (by decide) (by decide) rfl (by decide) rfl (hts (.fieldLink RX9 32 "SteamfieldModel$Field" "spilled" "[I") (by decide +kernel)) (fun _ h9 => h9) rfl hin2 rfl (tyX9_ok 10 (by decide)) rfl rfl dX9_init_69 (fun H locs hH z2 oq hS => ?_)
  have hz : H.size = sz + 36 := by omega
  have hH : z_H (dC, dI) vwCl yf ca yd7 (yad f sz) zM0 H := hH
  refine lv_aload_n hx hb dX9_init_72 rfl (lv_at hl 0 rfl) ?_
  refine lv_iconst (v := 4) hx hb dX9_init_73 (by decide) ?_
  refine z_newi (D := (dC, dI)) (cl := vwCl) (fl := yf) (ca := ca) (ad := yad f sz) (i := 37) (N' := 4) (t0 := 0) hx hb (hts (.arrayClass .int) (by decide +kernel)) hK rfl hH hS hA (by unfold yad; rw [if_neg (by decide), hz]) (fun _ => rfl) rfl (by decide) (by decide) (by decide) (Nat.le_of_ble_eq_true rfl) (Nat.le_of_ble_eq_true rfl) dX9_init_74 (fun H hH z1 o1 hS => ?_)
  have hz : H.size = sz + 37 := by omega
  have hH : z_H (dC, dI) vwCl yf ca yd8m (yad f sz) zM0 H := hH
  refine z_prF (D := (dC, dI)) (cl := vwCl) (fl := yf) (ca := ca) (ad := yad f sz) (C := RX9) (T := TX9) (N := 24) (ci := 9) (i := 0) (k := 11) (j := 37) (ty := tyX9 11) hx hb hts hinX9 tyX9 tyX9_ok nmX9 hown hK hH (fun a _ e9 => yad_inj hl0 a 0 e9) hS (Or.inl rfl) (by decide) (by decide) rfl (by decide) rfl (hts (.fieldLink RX9 35 "SteamfieldModel$Field" "gone" "[I") (by decide +kernel)) (fun _ h9 => h9) rfl hin2 rfl (tyX9_ok 11 (by decide)) rfl rfl dX9_init_76 (fun H locs hH z2 oq hS => ?_)
  have hz : H.size = sz + 37 := by omega
  have hH : z_H (dC, dI) vwCl yf ca yd8 (yad f sz) zM0 H := hH
  refine lv_aload_n hx hb dX9_init_79 rfl (lv_at hl 0 rfl) ?_
  refine lv_iconst (v := 2) hx hb dX9_init_80 (by decide) ?_
  refine z_newi (D := (dC, dI)) (cl := vwCl) (fl := yf) (ca := ca) (ad := yad f sz) (i := 38) (N' := 2) (t0 := 0) hx hb (hts (.arrayClass .int) (by decide +kernel)) hK rfl hH hS hA (by unfold yad; rw [if_neg (by decide), hz]) (fun _ => rfl) rfl (by decide) (by decide) (by decide) (Nat.le_of_ble_eq_true rfl) (Nat.le_of_ble_eq_true rfl) dX9_init_81 (fun H hH z1 o1 hS => ?_)
  have hz : H.size = sz + 38 := by omega
  have hH : z_H (dC, dI) vwCl yf ca yd9m (yad f sz) zM0 H := hH
  refine lv_dup hx hb dX9_init_83 rfl ?_
  refine lv_iconst (v := 0) hx hb dX9_init_84 (by decide) ?_
  refine lv_bipush (v := 100) hx hb dX9_init_85 (by decide) ?_
  refine zp_as (t0 := 0) (D := (dC, dI)) (cl := vwCl) (tys := yt ca) hx hb hK hH (yad_I hl0) hS (by rintro q ⟨a, _, rfl⟩; exact yad_A a) (i := 38) (by decide) rfl (show vp_in 0 2 from zx (n := 0) rfl (by decide) (by decide)) dX9_init_87 (fun H1 locs hH1 oq hS => ?_)
  have hz : H1.size = sz + 38 := by rw [z_size oq (hH.lt (i := 38) (by decide)) (hH1.lt (i := 38) (by decide)), hz]
  have hH : z_H (dC, dI) vwCl yf ca yd9m (yad f sz) (zu zM0 38 0 100) H1 := hH1
  refine lv_dup hx hb dX9_init_88 rfl ?_
  refine lv_iconst (v := 1) hx hb dX9_init_89 (by decide) ?_
  refine lv_bipush (v := 100) hx hb dX9_init_90 (by decide) ?_
  refine zp_as (t0 := 0) (D := (dC, dI)) (cl := vwCl) (tys := yt ca) hx hb hK hH (yad_I hl0) hS (by rintro q ⟨a, _, rfl⟩; exact yad_A a) (i := 38) (by decide) rfl (show vp_in 1 2 from zx (n := 1) rfl (by decide) (by decide)) dX9_init_92 (fun H1 locs hH1 oq hS => ?_)
  have hz : H1.size = sz + 38 := by rw [z_size oq (hH.lt (i := 38) (by decide)) (hH1.lt (i := 38) (by decide)), hz]
  have hH : z_H (dC, dI) vwCl yf ca yd9m (yad f sz) (zu (zu zM0 38 0 100) 38 1 100) H1 := hH1
  refine z_prF (D := (dC, dI)) (cl := vwCl) (fl := yf) (ca := ca) (ad := yad f sz) (C := RX9) (T := TX9) (N := 24) (ci := 9) (i := 0) (k := 12) (j := 38) (ty := tyX9 12) hx hb hts hinX9 tyX9 tyX9_ok nmX9 hown hK hH (fun a _ e9 => yad_inj hl0 a 0 e9) hS (Or.inl rfl) (by decide) (by decide) rfl (by decide) rfl (hts (.fieldLink RX9 38 "SteamfieldModel$Field" "coins" "[I") (by decide +kernel)) (fun _ h9 => h9) rfl hin2 rfl (tyX9_ok 12 (by decide)) rfl rfl dX9_init_93 (fun H locs hH z2 oq hS => ?_)
  have hz : H.size = sz + 38 := by omega
  have hH : z_H (dC, dI) vwCl yf ca yd9 (yad f sz) (zu (zu zM0 38 0 100) 38 1 100) H := hH
  refine lv_aload_n hx hb dX9_init_96 rfl (lv_at hl 0 rfl) ?_
  refine lv_iconst (v := 4) hx hb dX9_init_97 (by decide) ?_
  refine z_newi (D := (dC, dI)) (cl := vwCl) (fl := yf) (ca := ca) (ad := yad f sz) (i := 39) (N' := 4) (t0 := 0) hx hb (hts (.arrayClass .int) (by decide +kernel)) hK rfl hH hS hA (by unfold yad; rw [if_neg (by decide), hz]) (fun _ => rfl) rfl (by decide) (by decide) (by decide) (Nat.le_of_ble_eq_true rfl) (Nat.le_of_ble_eq_true rfl) dX9_init_98 (fun H hH z1 o1 hS => ?_)
  have hz : H.size = sz + 39 := by omega
  have hH : z_H (dC, dI) vwCl yf ca yd10m (yad f sz) (zu (zu zM0 38 0 100) 38 1 100) H := hH
  refine z_prF (D := (dC, dI)) (cl := vwCl) (fl := yf) (ca := ca) (ad := yad f sz) (C := RX9) (T := TX9) (N := 24) (ci := 9) (i := 0) (k := 13) (j := 39) (ty := tyX9 13) hx hb hts hinX9 tyX9 tyX9_ok nmX9 hown hK hH (fun a _ e9 => yad_inj hl0 a 0 e9) hS (Or.inl rfl) (by decide) (by decide) rfl (by decide) rfl (hts (.fieldLink RX9 41 "SteamfieldModel$Field" "shocks" "[I") (by decide +kernel)) (fun _ h9 => h9) rfl hin2 rfl (tyX9_ok 13 (by decide)) rfl rfl dX9_init_100 (fun H locs hH z2 oq hS => ?_)
  have hz : H.size = sz + 39 := by omega
  have hH : z_H (dC, dI) vwCl yf ca yd10 (yad f sz) (zu (zu zM0 38 0 100) 38 1 100) H := hH
  refine lv_aload_n hx hb dX9_init_103 rfl (lv_at hl 0 rfl) ?_
  refine lv_bipush (v := 20) hx hb dX9_init_104 (by decide) ?_
  refine zp_i (D := (dC, dI)) (cl := vwCl) (C := RX9) (T := TX9) (N := 24) (ci := 9) (i := 0) (k := 14) (ty := .int) hx hb hts hinX9 tyX9 tyX9_ok nmX9 hown hK hH (yad_I hl0) hS (by rintro q ⟨a, _, rfl⟩; exact yad_A a) (by decide) (by decide) rfl (by decide) rfl (hts (.fieldLink RX9 44 "SteamfieldModel$Field" "size" "I") (by decide +kernel)) (fun _ h9 => h9) rfl (by decide +kernel) rfl rfl dX9_init_106 (fun H1 locs hH1 oq hS => ?_)
  have hz : H1.size = sz + 39 := by rw [z_size oq (hH.lt (i := 0) (by decide)) (hH1.lt (i := 0) (by decide)), hz]
  have hH : z_H (dC, dI) vwCl yf ca yd10 (yad f sz) (zu (zu (zu zM0 38 0 100) 38 1 100) 0 14 20) H1 := hH1
  refine lv_aload_n hx hb dX9_init_109 rfl (lv_at hl 0 rfl) ?_
  refine lv_iconst (v := 1) hx hb dX9_init_110 (by decide) ?_
  refine zp_i (D := (dC, dI)) (cl := vwCl) (C := RX9) (T := TX9) (N := 24) (ci := 9) (i := 0) (k := 16) (ty := .boolean) hx hb hts hinX9 tyX9 tyX9_ok nmX9 hown hK hH (yad_I hl0) hS (by rintro q ⟨a, _, rfl⟩; exact yad_A a) (by decide) (by decide) rfl (by decide) rfl (hts (.fieldLink RX9 48 "SteamfieldModel$Field" "runs" "Z") (by decide +kernel)) (fun _ h9 => h9) rfl (by decide +kernel) (by decide) (by decide) dX9_init_111 (fun H1 locs hH1 oq hS => ?_)
  have hz : H1.size = sz + 39 := by rw [z_size oq (hH.lt (i := 0) (by decide)) (hH1.lt (i := 0) (by decide)), hz]
  have hH : z_H (dC, dI) vwCl yf ca yd10 (yad f sz) (zu (zu (zu (zu zM0 38 0 100) 38 1 100) 0 14 20) 0 16 1) H1 := hH1
  refine lv_aload_n hx hb dX9_init_114 rfl (lv_at hl 0 rfl) ?_
  refine lv_bipush (v := 6) hx hb dX9_init_115 (by decide) ?_
  refine z_newi (D := (dC, dI)) (cl := vwCl) (fl := yf) (ca := ca) (ad := yad f sz) (i := 40) (N' := 6) (t0 := 0) hx hb (hts (.arrayClass .int) (by decide +kernel)) hK rfl hH hS hA (by unfold yad; rw [if_neg (by decide), hz]) (fun _ => rfl) rfl (by decide) (by decide) (by decide) (Nat.le_of_ble_eq_true rfl) (Nat.le_of_ble_eq_true rfl) dX9_init_117 (fun H hH z1 o1 hS => ?_)
  have hz : H.size = sz + 40 := by omega
  have hH : z_H (dC, dI) vwCl yf ca yd11m (yad f sz) (zu (zu (zu (zu zM0 38 0 100) 38 1 100) 0 14 20) 0 16 1) H := hH
  refine z_prF (D := (dC, dI)) (cl := vwCl) (fl := yf) (ca := ca) (ad := yad f sz) (C := RX9) (T := TX9) (N := 24) (ci := 9) (i := 0) (k := 23) (j := 40) (ty := tyX9 23) hx hb hts hinX9 tyX9 tyX9_ok nmX9 hown hK hH (fun a _ e9 => yad_inj hl0 a 0 e9) hS (Or.inl rfl) (by decide) (by decide) rfl (by decide) rfl (hts (.fieldLink RX9 52 "SteamfieldModel$Field" "taken" "[I") (by decide +kernel)) (fun _ h9 => h9) rfl hin2 rfl (tyX9_ok 23 (by decide)) rfl rfl dX9_init_119 (fun H locs hH z2 oq hS => ?_)
  have hz : H.size = sz + 40 := by omega
  have hH : z_H (dC, dI) vwCl yf ca yd11 (yad f sz) (zu (zu (zu (zu zM0 38 0 100) 38 1 100) 0 14 20) 0 16 1) H := hH
  exact W.vret hx hb hr (fun t ht hW => ⟨⟨(), rfl, trivial, z_to (B := (fun H => H.size = sz + 40 ∧ yW dC dI ca (yad f sz) yM0 H)) ht ⟨hz, hH⟩⟩, hS.F ht⟩) hS.2.2 dX9_init_122
