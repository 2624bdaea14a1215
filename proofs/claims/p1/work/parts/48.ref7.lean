set_option maxHeartbeats 4000000 in
set_option maxRecDepth 100000 in
theorem m_X10_massNow (l : Launch) (dC : Nat → ClassId) (dI : Nat → Nat → Nat) (ca : Nat → ClassId) (mo sz : Nat) (ad : Nat → Nat) (hI : z_I yd ad) (hm : ∀ i, yd.1 i < 200 → ad i ≠ mo) (th : Int32) (sm : Int64) (a1 : Int32) (h : z_rg a1 0 6): Met l yX10_massNow wsX10_massNow ({ frames := 1, cells := 1, slots := 7, locals := 23 }) (z_Py (dC, dI) vwCl (yt ca) zw_nest [.ref mo, .int a1] (fun H => H.size = sz ∧ yMo dC dI mo th (ad 0) sm H ∧ yW dC dI ca ad (yM 0) H)) (z_Qi 0 (fun H => yMo dC dI mo th (ad 0) sm H ∧ yW dC dI ca ad (yM 0) H) (yA mo ad sz)) 1 7 (yA mo ad sz) := by
  refine Met.ofW (cc := cX10_massNow) (maxL := 3) (ret := (some .int)) (by decide) rfl ?_
  intro p e s m args below meth c s₁ B9 hml hv
  obtain ⟨rfl, ⟨hz, hMo, hH⟩, hK, hN, hX⟩ := hv
  have hx := B9.exec
  have hb := B9.bytes
  have hr := B9.returns
  have hts := atoms_spec (ws := wsX10_massNow) B9.pre
  have hown : s.vm.findClass RX10 = some m.cls := findClass_of_methodNamed B9.named
  have hlocks := B9.notSynchronized
  have hS : va_S (yA mo ad sz) s.heap s.heap [] := va_S.rf
  have hba : ∀ i, yd.1 i < 200 → ad i < sz := fun i hi => by have b0 := hH.lt hi; omega
  have hbm : mo < sz := by have b0 := va_at.lt hMo; exact hz ▸ b0
  have hAs : ∀ q, s.heap.size ≤ q → (yA mo ad sz) q := fun q h => Or.inr (Or.inr (hz ▸ h))
  have hinX10 : ∀ w ∈ u_ws RX10 TX10 3, w ∈ wsX10_massNow := by decide +kernel
  have hinX9 : ∀ w ∈ u_ws RX9 TX9 24, w ∈ wsX10_massNow := by decide +kernel
  have hl := lv_entry ([.ref mo, .int a1]) (n := 3) (Nat.le_of_ble_eq_true rfl)
  rw [lg_entry_eq]
  generalize (lg_sl ([.ref mo, .int a1]) ++ List.replicate (3 - (lg_sl ([.ref mo, .int a1])).length) Slot.unset).toArray = ls at hl ⊢
  have hl : lv_has ls 3 [(0, .ref mo), (1, .int a1)] := hl
  refine lv_bipush (v := 7) hx hb dX10_massNow_0 (by decide) ?_
  obtain ⟨r1, er1⟩ : ∃ z, z = s.heap.size := ⟨_, rfl⟩
  have hgr1 : sz ≤ r1 := by have b0 := hS.1; omega
  have hr1 : z_H (dC, dI) vwCl yf ca (yle 7) (yla r1) zM0 s.heap := fun i hi => absurd hi (by show ¬ (999 < 200); decide)
  refine z_newi (D := (dC, dI)) (cl := vwCl) (fl := yf) (ca := ca) (ad := yla r1) (i := 0) (N' := 7) (t0 := 0) hx hb (hts (.arrayClass .int) (by decide +kernel)) hK rfl hr1 hS hAs er1 (fun _ => rfl) rfl (by decide) (by decide) (by decide) (Nat.le_of_ble_eq_true rfl) (Nat.le_of_ble_eq_true rfl) dX10_massNow_2 (fun H hr1 z1 o1 hS => ?_)
  have hr1 : z_H (dC, dI) vwCl yf ca (yl 7) (yla r1) zM0 H := hr1
  have hH := hH.kept (fun i hi => o1 _ (hH.lt hi))
  have hMo := va_at.kept hMo (o1 _ (va_at.lt hMo))
  refine lv_dup hx hb dX10_massNow_4 rfl ?_
  refine lv_iconst (v := 0) hx hb dX10_massNow_5 (by decide) ?_
  refine lv_aload_n hx hb dX10_massNow_6 rfl (lv_at hl 0 rfl) ?_
  refine yo_get (D := (dC, dI)) (cl := vwCl) (C := RX10) (T := TX10) (N := 3) (ci := 10) (v := .ref (ad 0)) hx hb hts hinX10 hown hK hMo rfl 1 (by decide) (hts (.fieldLink RX10 10 "SteamfieldModel" "field" "LSteamfieldModel$Field;") (by decide +kernel)) (fun _ h9 => h9) rfl dX10_massNow_7 ?_
  refine z_grN (D := (dC, dI)) (cl := vwCl) (C := RX9) (T := TX9) (N := 24) (ci := 9) (k := 9) hx hb hts hinX9 hown hK hH (i := 0) yk_0 (by decide) rfl (by decide) rfl yr_9 (hN (.fieldLinkNest RX10 44 "SteamfieldModel$Field" "told" "[I" "SteamfieldModel") (by decide +kernel)) (fun _ h9 => h9) dX10_massNow_10 ?_
  refine lv_iconst (v := 0) hx hb dX10_massNow_13 (by decide) ?_
  refine z_al (t0 := 0) (D := (dC, dI)) (cl := vwCl) (tys := yt ca) hx hb hK hH (i := 35) yk_35 rfl (show vp_in 0 4 from zx (n := 0) rfl (by decide) (by decide)) dX10_massNow_14 ?_
  refine y_num (b := 0) rfl ?_
  refine zp_as (t0 := 0) (D := (dC, dI)) (cl := vwCl) (tys := yt ca) hx hb hK hr1 (yl_I 7 r1) hS (by rintro q ⟨_, _, rfl⟩; exact Or.inr (Or.inr (show sz ≤ r1 from hgr1))) (i := 0) rfl rfl (show vp_in 0 7 from zx (n := 0) rfl (by decide) (by decide)) dX10_massNow_15 (fun H locs hr1 oq hS => ?_)
  rw [show (0 : Int32).toNatClampNeg = 0 from rfl] at hr1
  rw [zu_same (show zM0 0 0 = 0 from rfl)] at hr1
  have hH := hH.kept (fun i hi => oq _ (by have b0 := hba i hi; have b1 := hgr1; simp only [yla]; omega))
  have hMo := va_at.kept hMo (oq _ (by have b0 := hbm; have b1 := hgr1; simp only [yla]; omega))
  refine lv_dup hx hb dX10_massNow_16 rfl ?_
  refine lv_iconst (v := 1) hx hb dX10_massNow_17 (by decide) ?_
  refine lv_aload_n hx hb dX10_massNow_18 rfl (lv_at hl 0 rfl) ?_
  refine yo_get (D := (dC, dI)) (cl := vwCl) (C := RX10) (T := TX10) (N := 3) (ci := 10) (v := .ref (ad 0)) hx hb hts hinX10 hown hK hMo rfl 1 (by decide) (hts (.fieldLink RX10 10 "SteamfieldModel" "field" "LSteamfieldModel$Field;") (by decide +kernel)) (fun _ h9 => h9) rfl dX10_massNow_19 ?_
  refine lv_iconst (v := 0) hx hb dX10_massNow_22 (by decide) ?_
  refine y_cVi (D := (dC, dI)) (cl := vwCl) (tys := yt ca) (nw := zw_nest) (C := RX9) (As := [.int 0]) (rest := [.int 1, .ref (yla r1 0), .ref (yla r1 0)]) ⟨hx, hb, hml, hown, hts⟩ (m_X9_sum l dC dI ca ad hI 0 (by decide) 0 ) (cwV 1 hts gX10_massNow_X9_sum rfl rfl rfl (by decide +kernel) ⟨Nat.le_of_ble_eq_true rfl, Nat.le_of_ble_eq_true rfl⟩) (z_recv (ci := 9) (i := 0) hK hH yk_0 (by decide) rfl) hH hK hN hX zw_nest_ok rfl hl.1 rfl (Nat.le_of_ble_eq_true rfl) dX10_massNow_23 ⟨Nat.le_of_ble_eq_true rfl, Nat.le_of_ble_eq_true rfl⟩ hS (fun _ h => Or.inr (Or.inl h)) (fun H locs hB1 oq1 hz1 hS => ?_)
  have hMo := va_at.kept hMo (oq1 _ (va_at.lt hMo) (fun ⟨j, hj, e9⟩ => hm j hj e9))
  have hr1 := hr1.kept (fun i hi => oq1 _ (hr1.lt hi) (by rintro ⟨j, hj, e9⟩; have b0 := hgr1; have b1 := hba j hj; have e8 : ad j = r1 := e9; omega))
  have hH : z_H (dC, dI) vwCl yf ca yd ad (yM 0) H := hB1
  refine zp_as (t0 := 0) (D := (dC, dI)) (cl := vwCl) (tys := yt ca) hx hb hK hr1 (yl_I 7 r1) hS (by rintro q ⟨_, _, rfl⟩; exact Or.inr (Or.inr (show sz ≤ r1 from hgr1))) (i := 0) rfl rfl (show vp_in 1 7 from zx (n := 1) rfl (by decide) (by decide)) dX10_massNow_26 (fun H locs hr1 oq hS => ?_)
  rw [show (1 : Int32).toNatClampNeg = 1 from rfl] at hr1
  rw [zu_same (show zM0 0 1 = 0 from rfl)] at hr1
  have hH := hH.kept (fun i hi => oq _ (by have b0 := hba i hi; have b1 := hgr1; simp only [yla]; omega))
  have hMo := va_at.kept hMo (oq _ (by have b0 := hbm; have b1 := hgr1; simp only [yla]; omega))
  refine lv_dup hx hb dX10_massNow_27 rfl ?_
  refine lv_iconst (v := 2) hx hb dX10_massNow_28 (by decide) ?_
  refine lv_aload_n hx hb dX10_massNow_29 rfl (lv_at hl 0 rfl) ?_
  refine yo_get (D := (dC, dI)) (cl := vwCl) (C := RX10) (T := TX10) (N := 3) (ci := 10) (v := .ref (ad 0)) hx hb hts hinX10 hown hK hMo rfl 1 (by decide) (hts (.fieldLink RX10 10 "SteamfieldModel" "field" "LSteamfieldModel$Field;") (by decide +kernel)) (fun _ h9 => h9) rfl dX10_massNow_30 ?_
  refine z_grN (D := (dC, dI)) (cl := vwCl) (C := RX9) (T := TX9) (N := 24) (ci := 9) (k := 8) hx hb hts hinX9 hown hK hH (i := 0) yk_0 (by decide) rfl (by decide) rfl yr_8 (hN (.fieldLinkNest RX10 100 "SteamfieldModel$Field" "pond" "[I" "SteamfieldModel") (by decide +kernel)) (fun _ h9 => h9) dX10_massNow_33 ?_
  refine lv_iconst (v := 0) hx hb dX10_massNow_36 (by decide) ?_
  refine z_al (t0 := 0) (D := (dC, dI)) (cl := vwCl) (tys := yt ca) hx hb hK hH (i := 34) yk_34 rfl (show vp_in 0 6 from zx (n := 0) rfl (by decide) (by decide)) dX10_massNow_37 ?_
  refine y_num (b := 0) rfl ?_
  refine zp_as (t0 := 0) (D := (dC, dI)) (cl := vwCl) (tys := yt ca) hx hb hK hr1 (yl_I 7 r1) hS (by rintro q ⟨_, _, rfl⟩; exact Or.inr (Or.inr (show sz ≤ r1 from hgr1))) (i := 0) rfl rfl (show vp_in 2 7 from zx (n := 2) rfl (by decide) (by decide)) dX10_massNow_38 (fun H locs hr1 oq hS => ?_)
  rw [show (2 : Int32).toNatClampNeg = 2 from rfl] at hr1
  rw [zu_same (show zM0 0 2 = 0 from rfl)] at hr1
  have hH := hH.kept (fun i hi => oq _ (by have b0 := hba i hi; have b1 := hgr1; simp only [yla]; omega))
  have hMo := va_at.kept hMo (oq _ (by have b0 := hbm; have b1 := hgr1; simp only [yla]; omega))
  refine lv_dup hx hb dX10_massNow_39 rfl ?_
  refine lv_iconst (v := 3) hx hb dX10_massNow_40 (by decide) ?_
  refine lv_aload_n hx hb dX10_massNow_41 rfl (lv_at hl 0 rfl) ?_
  refine yo_get (D := (dC, dI)) (cl := vwCl) (C := RX10) (T := TX10) (N := 3) (ci := 10) (v := .ref (ad 0)) hx hb hts hinX10 hown hK hMo rfl 1 (by decide) (hts (.fieldLink RX10 10 "SteamfieldModel" "field" "LSteamfieldModel$Field;") (by decide +kernel)) (fun _ h9 => h9) rfl dX10_massNow_42 ?_
  refine z_giN (D := (dC, dI)) (cl := vwCl) (C := RX9) (T := TX9) (N := 24) (ci := 9) (k := 21) hx hb hts hinX9 hown hK hH (i := 0) yk_0 (by decide) rfl (by decide) rfl (hN (.fieldLinkNest RX10 109 "SteamfieldModel$Field" "used" "I" "SteamfieldModel") (by decide +kernel)) (fun _ h9 => h9) dX10_massNow_45 ?_
  refine y_num (b := 0) rfl ?_
  refine zp_as (t0 := 0) (D := (dC, dI)) (cl := vwCl) (tys := yt ca) hx hb hK hr1 (yl_I 7 r1) hS (by rintro q ⟨_, _, rfl⟩; exact Or.inr (Or.inr (show sz ≤ r1 from hgr1))) (i := 0) rfl rfl (show vp_in 3 7 from zx (n := 3) rfl (by decide) (by decide)) dX10_massNow_48 (fun H locs hr1 oq hS => ?_)
  rw [show (3 : Int32).toNatClampNeg = 3 from rfl] at hr1
  rw [zu_same (show zM0 0 3 = 0 from rfl)] at hr1
  have hH := hH.kept (fun i hi => oq _ (by have b0 := hba i hi; have b1 := hgr1; simp only [yla]; omega))
  have hMo := va_at.kept hMo (oq _ (by have b0 := hbm; have b1 := hgr1; simp only [yla]; omega))
  refine lv_dup hx hb dX10_massNow_49 rfl ?_
  refine lv_iconst (v := 4) hx hb dX10_massNow_50 (by decide) ?_
  refine lv_aload_n hx hb dX10_massNow_51 rfl (lv_at hl 0 rfl) ?_
  refine yo_get (D := (dC, dI)) (cl := vwCl) (C := RX10) (T := TX10) (N := 3) (ci := 10) (v := .ref (ad 0)) hx hb hts hinX10 hown hK hMo rfl 1 (by decide) (hts (.fieldLink RX10 10 "SteamfieldModel" "field" "LSteamfieldModel$Field;") (by decide +kernel)) (fun _ h9 => h9) rfl dX10_massNow_52 ?_
  refine z_giN (D := (dC, dI)) (cl := vwCl) (C := RX9) (T := TX9) (N := 24) (ci := 9) (k := 22) hx hb hts hinX9 hown hK hH (i := 0) yk_0 (by decide) rfl (by decide) rfl (hN (.fieldLinkNest RX10 112 "SteamfieldModel$Field" "vented" "I" "SteamfieldModel") (by decide +kernel)) (fun _ h9 => h9) dX10_massNow_55 ?_
  refine y_num (b := 0) rfl ?_
  refine zp_as (t0 := 0) (D := (dC, dI)) (cl := vwCl) (tys := yt ca) hx hb hK hr1 (yl_I 7 r1) hS (by rintro q ⟨_, _, rfl⟩; exact Or.inr (Or.inr (show sz ≤ r1 from hgr1))) (i := 0) rfl rfl (show vp_in 4 7 from zx (n := 4) rfl (by decide) (by decide)) dX10_massNow_58 (fun H locs hr1 oq hS => ?_)
  rw [show (4 : Int32).toNatClampNeg = 4 from rfl] at hr1
  rw [zu_same (show zM0 0 4 = 0 from rfl)] at hr1
  have hH := hH.kept (fun i hi => oq _ (by have b0 := hba i hi; have b1 := hgr1; simp only [yla]; omega))
  have hMo := va_at.kept hMo (oq _ (by have b0 := hbm; have b1 := hgr1; simp only [yla]; omega))
  refine lv_dup hx hb dX10_massNow_59 rfl ?_
  refine lv_iconst (v := 5) hx hb dX10_massNow_60 (by decide) ?_
  refine lv_aload_n hx hb dX10_massNow_61 rfl (lv_at hl 0 rfl) ?_
  refine yo_get (D := (dC, dI)) (cl := vwCl) (C := RX10) (T := TX10) (N := 3) (ci := 10) (v := .ref (ad 0)) hx hb hts hinX10 hown hK hMo rfl 1 (by decide) (hts (.fieldLink RX10 10 "SteamfieldModel" "field" "LSteamfieldModel$Field;") (by decide +kernel)) (fun _ h9 => h9) rfl dX10_massNow_62 ?_
  refine z_grN (D := (dC, dI)) (cl := vwCl) (C := RX9) (T := TX9) (N := 24) (ci := 9) (k := 10) hx hb hts hinX9 hown hK hH (i := 0) yk_0 (by decide) rfl (by decide) rfl yr_10 (hN (.fieldLinkNest RX10 115 "SteamfieldModel$Field" "spilled" "[I" "SteamfieldModel") (by decide +kernel)) (fun _ h9 => h9) dX10_massNow_65 ?_
  refine lv_iconst (v := 0) hx hb dX10_massNow_68 (by decide) ?_
  refine z_al (t0 := 0) (D := (dC, dI)) (cl := vwCl) (tys := yt ca) hx hb hK hH (i := 36) yk_36 rfl (show vp_in 0 4 from zx (n := 0) rfl (by decide) (by decide)) dX10_massNow_69 ?_
  refine y_num (b := 0) rfl ?_
  refine zp_as (t0 := 0) (D := (dC, dI)) (cl := vwCl) (tys := yt ca) hx hb hK hr1 (yl_I 7 r1) hS (by rintro q ⟨_, _, rfl⟩; exact Or.inr (Or.inr (show sz ≤ r1 from hgr1))) (i := 0) rfl rfl (show vp_in 5 7 from zx (n := 5) rfl (by decide) (by decide)) dX10_massNow_70 (fun H locs hr1 oq hS => ?_)
  rw [show (5 : Int32).toNatClampNeg = 5 from rfl] at hr1
  rw [zu_same (show zM0 0 5 = 0 from rfl)] at hr1
  have hH := hH.kept (fun i hi => oq _ (by have b0 := hba i hi; have b1 := hgr1; simp only [yla]; omega))
  have hMo := va_at.kept hMo (oq _ (by have b0 := hbm; have b1 := hgr1; simp only [yla]; omega))
  refine lv_dup hx hb dX10_massNow_71 rfl ?_
  refine lv_bipush (v := 6) hx hb dX10_massNow_72 (by decide) ?_
  refine lv_aload_n hx hb dX10_massNow_74 rfl (lv_at hl 0 rfl) ?_
  refine yo_get (D := (dC, dI)) (cl := vwCl) (C := RX10) (T := TX10) (N := 3) (ci := 10) (v := .ref (ad 0)) hx hb hts hinX10 hown hK hMo rfl 1 (by decide) (hts (.fieldLink RX10 10 "SteamfieldModel" "field" "LSteamfieldModel$Field;") (by decide +kernel)) (fun _ h9 => h9) rfl dX10_massNow_75 ?_
  refine z_grN (D := (dC, dI)) (cl := vwCl) (C := RX9) (T := TX9) (N := 24) (ci := 9) (k := 11) hx hb hts hinX9 hown hK hH (i := 0) yk_0 (by decide) rfl (by decide) rfl yr_11 (hN (.fieldLinkNest RX10 118 "SteamfieldModel$Field" "gone" "[I" "SteamfieldModel") (by decide +kernel)) (fun _ h9 => h9) dX10_massNow_78 ?_
  refine lv_iconst (v := 0) hx hb dX10_massNow_81 (by decide) ?_
  refine z_al (t0 := 0) (D := (dC, dI)) (cl := vwCl) (tys := yt ca) hx hb hK hH (i := 37) yk_37 rfl (show vp_in 0 4 from zx (n := 0) rfl (by decide) (by decide)) dX10_massNow_82 ?_
  refine y_num (b := 0) rfl ?_
  refine zp_as (t0 := 0) (D := (dC, dI)) (cl := vwCl) (tys := yt ca) hx hb hK hr1 (yl_I 7 r1) hS (by rintro q ⟨_, _, rfl⟩; exact Or.inr (Or.inr (show sz ≤ r1 from hgr1))) (i := 0) rfl rfl (show vp_in 6 7 from zx (n := 6) rfl (by decide) (by decide)) dX10_massNow_83 (fun H locs hr1 oq hS => ?_)
  rw [show (6 : Int32).toNatClampNeg = 6 from rfl] at hr1
  rw [zu_same (show zM0 0 6 = 0 from rfl)] at hr1
  have hH := hH.kept (fun i hi => oq _ (by have b0 := hba i hi; have b1 := hgr1; simp only [yla]; omega))
  have hMo := va_at.kept hMo (oq _ (by have b0 := hbm; have b1 := hgr1; simp only [yla]; omega))
  refine lv_astore_n (lv' := [(2, .ref (yla r1 0)), (0, .ref mo), (1, .int a1)]) hx hb dX10_massNow_84 rfl hl (by decide) rfl (fun ls hl => ?_)
  refine lv_aload_n hx hb dX10_massNow_85 rfl (lv_at hl 0 rfl) ?_
  refine lv_iload_n hx hb dX10_massNow_86 rfl (lv_at hl 2 rfl) ?_
  refine z_al (t0 := 0) (D := (dC, dI)) (cl := vwCl) (tys := yt ca) hx hb hK hr1 (i := 0) rfl rfl (show vp_in a1 7 from z_ix.in (z_ix_rg h (by decide) (by decide))) dX10_massNow_87 ?_
  refine y_num (b := 0) rfl ?_
  refine W.widen (k := 1) (n := 7) (Nat.le_of_ble_eq_true rfl) (Nat.le_of_ble_eq_true rfl) ?_
  exact W.iret (v := 0) hx hb hr (fun t ht hW => ⟨⟨0, (), rfl, rfl, z_to (B := (fun H => yMo dC dI mo th (ad 0) sm H ∧ yW dC dI ca ad (yM 0) H)) ht ⟨hMo, hH⟩⟩, hS.F ht⟩) hS.2.2 dX10_massNow_88
set_option maxHeartbeats 4000000 in
set_option maxRecDepth 100000 in
theorem m_X10_massy (l : Launch) (dC : Nat → ClassId) (dI : Nat → Nat → Nat) (ca : Nat → ClassId) (mo sz : Nat) (ad : Nat → Nat) (hI : z_I yd ad) (hm : ∀ i, yd.1 i < 200 → ad i ≠ mo) (th : Int32) (sm : Int64) (a1 : Int32) (h : z_rg a1 0 6): Met l yX10_mass wsX10_mass ({ frames := 2, cells := 1, slots := 7, locals := 45 }) (z_Py (dC, dI) vwCl (yt ca) zw_nest [.ref mo, .int a1] (fun H => H.size = sz ∧ yMo dC dI mo th (ad 0) sm H ∧ yW dC dI ca ad (yM 0) H)) (z_Qi 0 (fun H => yMo dC dI mo 0 (ad 0) sm H ∧ yW dC dI ca ad (yM 0) H) (yA mo ad sz)) 1 7 (yA mo ad sz) := by
  refine Met.ofW (cc := cX10_mass) (maxL := 2) (ret := (some .int)) (by decide) rfl ?_
  intro p e s m args below meth c s₁ B9 hml hv
  obtain ⟨rfl, ⟨hz, hMo, hH⟩, hK, hN, hX⟩ := hv
  have hx := B9.exec
  have hb := B9.bytes
  have hr := B9.returns
  have hts := atoms_spec (ws := wsX10_mass) B9.pre
  have hown : s.vm.findClass RX10 = some m.cls := findClass_of_methodNamed B9.named
  have hlocks := B9.notSynchronized
  have hS : va_S (yA mo ad sz) s.heap s.heap [] := va_S.rf
  have hba : ∀ i, yd.1 i < 200 → ad i < sz := fun i hi => by have b0 := hH.lt hi; omega
  have hbm : mo < sz := by have b0 := va_at.lt hMo; exact hz ▸ b0
  have hAs : ∀ q, s.heap.size ≤ q → (yA mo ad sz) q := fun q h => Or.inr (Or.inr (hz ▸ h))
  have hinX10 : ∀ w ∈ u_ws RX10 TX10 3, w ∈ wsX10_mass := by decide +kernel
  have hl := lv_entry ([.ref mo, .int a1]) (n := 2) (Nat.le_of_ble_eq_true rfl)
  rw [lg_entry_eq]
  generalize (lg_sl ([.ref mo, .int a1]) ++ List.replicate (2 - (lg_sl ([.ref mo, .int a1])).length) Slot.unset).toArray = ls at hl ⊢
  have hl : lv_has ls 2 [(0, .ref mo), (1, .int a1)] := hl
  refine lv_aload_n hx hb dX10_mass_0 rfl (lv_at hl 0 rfl) ?_
  refine lv_iconst (v := 0) hx hb dX10_mass_1 (by decide) ?_
  refine yo_put (D := (dC, dI)) (cl := vwCl) (C := RX10) (T := TX10) (N := 3) (ci := 10) (ty := .int) hx hb hts hinX10 tyX10 tyX10_ok nmX10 hown hK hMo hS (Or.inl rfl) rfl 0 (by decide) (hts (.fieldLink RX10 16 "SteamfieldModel" "thrown" "I") (by decide +kernel)) (fun _ h9 => h9) rfl (by decide +kernel) rfl rfl (show 0 < 3 by decide) dX10_mass_2 (fun H locs hMo z9 oq hS => ?_)
  have hMo : yMo dC dI mo 0 (ad 0) sm H := hMo
  have hH := hH.kept (fun i hi => oq _ (hm i hi))
  refine lv_iload_n hx hb dX10_mass_5 rfl (lv_at hl 1 rfl) ?_
  refine lv_iconst (v := 0) hx hb dX10_mass_6 (by decide) ?_
  refine lv_bipush (v := 6) hx hb dX10_mass_7 (by decide) ?_
  refine y_cSi (D := (dC, dI)) (cl := vwCl) (tys := yt ca) (nw := zw_nest) (As := [.int a1, .int 0, .int 6]) (rest := []) ⟨hx, hb, hml, hown, hts⟩ (m_X10_isy l dC dI ca (fun z : Heap => z = H) a1 0 6 h) (cwS 3 hts gX10_mass_X10_is rfl rfl rfl (by decide +kernel) ⟨Nat.le_of_ble_eq_true rfl, Nat.le_of_ble_eq_true rfl⟩) rfl hK hN hX zw_nest_ok rfl hl.1 rfl (Nat.le_of_ble_eq_true rfl) dX10_mass_9 ⟨Nat.le_of_ble_eq_true rfl, Nat.le_of_ble_eq_true rfl⟩ hS (fun _ h => h.elim) (fun H locs hB1 oq1 hz1 hS => ?_)
  have hH : z_H (dC, dI) vwCl yf ca yd ad (yM 0) H := by rw [hB1]; exact hH
  have hMo : yMo dC dI mo 0 (ad 0) sm H := by rw [hB1]; exact hMo
  refine lv_if_eq (tgt := 23) hx hb dX10_mass_12 (by decide) (fun c9 => absurd c9 (by decide)) (fun _ => ?_)
  refine lv_aload_n hx hb dX10_mass_15 rfl (lv_at hl 0 rfl) ?_
  refine lv_iload_n hx hb dX10_mass_16 rfl (lv_at hl 1 rfl) ?_
  refine y_cVi (D := (dC, dI)) (cl := vwCl) (tys := yt ca) (nw := zw_nest) (C := RX10) (As := [.int a1]) (rest := []) ⟨hx, hb, hml, hown, hts⟩ (m_X10_massNow l dC dI ca mo H.size ad hI hm 0 sm a1 h) (cwV 1 hts gX10_mass_X10_massNow rfl rfl rfl (by decide +kernel) ⟨Nat.le_of_ble_eq_true rfl, Nat.le_of_ble_eq_true rfl⟩) (va_recv hK (y_one hMo) (ci := 10) rfl (q0 := 0) rfl) ⟨rfl, hMo, hH⟩ hK hN hX zw_nest_ok rfl hl.1 rfl (Nat.le_of_ble_eq_true rfl) dX10_mass_17 ⟨Nat.le_of_ble_eq_true rfl, Nat.le_of_ble_eq_true rfl⟩ hS (yA_mono (by have b0 := hS.1; omega)) (fun H locs hB1 oq1 hz1 hS => ?_)
  obtain ⟨hMo, hH⟩ := hB1
  refine lv_goto (tgt := 28) hx hb dX10_mass_20 (by decide) ?_
  refine W.widen (k := 1) (n := 7) (Nat.le_of_ble_eq_true rfl) (Nat.le_of_ble_eq_true rfl) ?_
  exact W.iret (v := 0) hx hb hr (fun t ht hW => ⟨⟨0, (), rfl, rfl, z_to (B := (fun H => yMo dC dI mo 0 (ad 0) sm H ∧ yW dC dI ca ad (yM 0) H)) ht ⟨hMo, hH⟩⟩, hS.F ht⟩) hS.2.2 dX10_mass_28
set_option maxHeartbeats 4000000 in
set_option maxRecDepth 100000 in
theorem m_X10_massn (l : Launch) (dC : Nat → ClassId) (dI : Nat → Nat → Nat) (ca : Nat → ClassId) (mo sz : Nat) (ad : Nat → Nat) (hI : z_I yd ad) (hm : ∀ i, yd.1 i < 200 → ad i ≠ mo) (th : Int32) (sm : Int64) (a1 : Int32) (h : ¬ z_rg a1 0 6): Met l yX10_mass wsX10_mass ({ frames := 1, cells := 0, slots := 0, locals := 22 }) (z_Py (dC, dI) vwCl (yt ca) zw_nest [.ref mo, .int a1] (fun H => H.size = sz ∧ yMo dC dI mo th (ad 0) sm H ∧ yW dC dI ca ad (yM 0) H)) (z_Qi 0 (fun H => yMo dC dI mo 1 (ad 0) sm H ∧ yW dC dI ca ad (yM 0) H) (yA mo ad sz)) 0 0 (yA mo ad sz) := by
  refine Met.ofW (cc := cX10_mass) (maxL := 2) (ret := (some .int)) (by decide) rfl ?_
  intro p e s m args below meth c s₁ B9 hml hv
  obtain ⟨rfl, ⟨hz, hMo, hH⟩, hK, hN, hX⟩ := hv
  have hx := B9.exec
  have hb := B9.bytes
  have hr := B9.returns
  have hts := atoms_spec (ws := wsX10_mass) B9.pre
  have hown : s.vm.findClass RX10 = some m.cls := findClass_of_methodNamed B9.named
  have hlocks := B9.notSynchronized
  have hS : va_S (yA mo ad sz) s.heap s.heap [] := va_S.rf
  have hba : ∀ i, yd.1 i < 200 → ad i < sz := fun i hi => by have b0 := hH.lt hi; omega
  have hbm : mo < sz := by have b0 := va_at.lt hMo; exact hz ▸ b0
  have hAs : ∀ q, s.heap.size ≤ q → (yA mo ad sz) q := fun q h => Or.inr (Or.inr (hz ▸ h))
  have hinX10 : ∀ w ∈ u_ws RX10 TX10 3, w ∈ wsX10_mass := by decide +kernel
  have hl := lv_entry ([.ref mo, .int a1]) (n := 2) (Nat.le_of_ble_eq_true rfl)
  rw [lg_entry_eq]
  generalize (lg_sl ([.ref mo, .int a1]) ++ List.replicate (2 - (lg_sl ([.ref mo, .int a1])).length) Slot.unset).toArray = ls at hl ⊢
  have hl : lv_has ls 2 [(0, .ref mo), (1, .int a1)] := hl
  refine lv_aload_n hx hb dX10_mass_0 rfl (lv_at hl 0 rfl) ?_
  refine lv_iconst (v := 0) hx hb dX10_mass_1 (by decide) ?_
  refine yo_put (D := (dC, dI)) (cl := vwCl) (C := RX10) (T := TX10) (N := 3) (ci := 10) (ty := .int) hx hb hts hinX10 tyX10 tyX10_ok nmX10 hown hK hMo hS (Or.inl rfl) rfl 0 (by decide) (hts (.fieldLink RX10 16 "SteamfieldModel" "thrown" "I") (by decide +kernel)) (fun _ h9 => h9) rfl (by decide +kernel) rfl rfl (show 0 < 3 by decide) dX10_mass_2 (fun H locs hMo z9 oq hS => ?_)
  have hMo : yMo dC dI mo 0 (ad 0) sm H := hMo
  have hH := hH.kept (fun i hi => oq _ (hm i hi))
  refine lv_iload_n hx hb dX10_mass_5 rfl (lv_at hl 1 rfl) ?_
  refine lv_iconst (v := 0) hx hb dX10_mass_6 (by decide) ?_
  refine lv_bipush (v := 6) hx hb dX10_mass_7 (by decide) ?_
  refine y_cSi (D := (dC, dI)) (cl := vwCl) (tys := yt ca) (nw := zw_nest) (As := [.int a1, .int 0, .int 6]) (rest := []) ⟨hx, hb, hml, hown, hts⟩ (m_X10_isn l dC dI ca (fun z : Heap => z = H) a1 0 6 h) (cwS 3 hts gX10_mass_X10_is rfl rfl rfl (by decide +kernel) ⟨Nat.le_of_ble_eq_true rfl, Nat.le_of_ble_eq_true rfl⟩) rfl hK hN hX zw_nest_ok rfl hl.1 rfl (Nat.le_of_ble_eq_true rfl) dX10_mass_9 ⟨Nat.le_of_ble_eq_true rfl, Nat.le_of_ble_eq_true rfl⟩ hS (fun _ h => h.elim) (fun H locs hB1 oq1 hz1 hS => ?_)
  have hH : z_H (dC, dI) vwCl yf ca yd ad (yM 0) H := by rw [hB1]; exact hH
  have hMo : yMo dC dI mo 0 (ad 0) sm H := by rw [hB1]; exact hMo
  refine lv_if_eq (tgt := 23) hx hb dX10_mass_12 (by decide) (fun _ => ?_) (fun c9 => absurd c9 (by decide))
  refine lv_aload_n hx hb dX10_mass_23 rfl (lv_at hl 0 rfl) ?_
  refine lv_iconst (v := 1) hx hb dX10_mass_24 (by decide) ?_
  refine y_cVi (D := (dC, dI)) (cl := vwCl) (tys := yt ca) (nw := zw_nest) (C := RX10) (As := [.int 1]) (rest := []) ⟨hx, hb, hml, hown, hts⟩ (m_X10_refuse l dC dI ca mo H.size ad hI hm 0 sm 1 ) (cwV 1 hts gX10_mass_X10_refuse rfl rfl rfl (by decide +kernel) ⟨Nat.le_of_ble_eq_true rfl, Nat.le_of_ble_eq_true rfl⟩) (va_recv hK (y_one hMo) (ci := 10) rfl (q0 := 0) rfl) ⟨rfl, hMo, hH⟩ hK hN hX zw_nest_ok rfl hl.1 rfl (Nat.le_of_ble_eq_true rfl) dX10_mass_25 ⟨Nat.le_of_ble_eq_true rfl, Nat.le_of_ble_eq_true rfl⟩ hS (yA_mono (by have b0 := hS.1; omega)) (fun H locs hB1 oq1 hz1 hS => ?_)
  obtain ⟨hMo, hH⟩ := hB1
  refine W.widen (k := 0) (n := 0) (Nat.le_of_ble_eq_true rfl) (Nat.le_of_ble_eq_true rfl) ?_
  exact W.iret (v := 0) hx hb hr (fun t ht hW => ⟨⟨0, (), rfl, rfl, z_to (B := (fun H => yMo dC dI mo 1 (ad 0) sm H ∧ yW dC dI ca ad (yM 0) H)) ht ⟨hMo, hH⟩⟩, hS.F ht⟩) hS.2.2 dX10_mass_28
set_option maxHeartbeats 4000000 in
set_option maxRecDepth 100000 in
theorem m_X10_manyNow (l : Launch) (dC : Nat → ClassId) (dI : Nat → Nat → Nat) (ca : Nat → ClassId) (mo sz : Nat) (ad : Nat → Nat) (hI : z_I yd ad) (hm : ∀ i, yd.1 i < 200 → ad i ≠ mo) (th : Int32) (sm : Int64) (a1 : Int32) (h : z_rg a1 0 12): Met l yX10_manyNow wsX10_manyNow ({ frames := 1, cells := 1, slots := 13, locals := 22 }) (z_Py (dC, dI) vwCl (yt ca) zw_nest [.ref mo, .int a1] (fun H => H.size = sz ∧ yMo dC dI mo th (ad 0) sm H ∧ yW dC dI ca ad (yM 0) H)) (z_Qi (yMany a1) (fun H => yMo dC dI mo th (ad 0) sm H ∧ yW dC dI ca ad (yM 0) H) (yA mo ad sz)) 1 13 (yA mo ad sz) := by
  refine Met.ofW (cc := cX10_manyNow) (maxL := 3) (ret := (some .int)) (by decide) rfl ?_
  intro p e s m args below meth c s₁ B9 hml hv
  obtain ⟨rfl, ⟨hz, hMo, hH⟩, hK, hN, hX⟩ := hv
  have hx := B9.exec
  have hb := B9.bytes
  have hr := B9.returns
  have hts := atoms_spec (ws := wsX10_manyNow) B9.pre
  have hown : s.vm.findClass RX10 = some m.cls := findClass_of_methodNamed B9.named
  have hlocks := B9.notSynchronized
  have hS : va_S (yA mo ad sz) s.heap s.heap [] := va_S.rf
  have hba : ∀ i, yd.1 i < 200 → ad i < sz := fun i hi => by have b0 := hH.lt hi; omega
  have hbm : mo < sz := by have b0 := va_at.lt hMo; exact hz ▸ b0
  have hAs : ∀ q, s.heap.size ≤ q → (yA mo ad sz) q := fun q h => Or.inr (Or.inr (hz ▸ h))
  have hinX10 : ∀ w ∈ u_ws RX10 TX10 3, w ∈ wsX10_manyNow := by decide +kernel
  have hinX9 : ∀ w ∈ u_ws RX9 TX9 24, w ∈ wsX10_manyNow := by decide +kernel
  have hl := lv_entry ([.ref mo, .int a1]) (n := 3) (Nat.le_of_ble_eq_true rfl)
  rw [lg_entry_eq]
  generalize (lg_sl ([.ref mo, .int a1]) ++ List.replicate (3 - (lg_sl ([.ref mo, .int a1])).length) Slot.unset).toArray = ls at hl ⊢
  have hl : lv_has ls 3 [(0, .ref mo), (1, .int a1)] := hl
  refine lv_bipush (v := 13) hx hb dX10_manyNow_0 (by decide) ?_
  obtain ⟨r1, er1⟩ : ∃ z, z = s.heap.size := ⟨_, rfl⟩
  have hgr1 : sz ≤ r1 := by have b0 := hS.1; omega
  have hr1 : z_H (dC, dI) vwCl yf ca (yle 13) (yla r1) zM0 s.heap := fun i hi => absurd hi (by show ¬ (999 < 200); decide)
  refine z_newi (D := (dC, dI)) (cl := vwCl) (fl := yf) (ca := ca) (ad := yla r1) (i := 0) (N' := 13) (t0 := 0) hx hb (hts (.arrayClass .int) (by decide +kernel)) hK rfl hr1 hS hAs er1 (fun _ => rfl) rfl (by decide) (by decide) (by decide) (Nat.le_of_ble_eq_true rfl) (Nat.le_of_ble_eq_true rfl) dX10_manyNow_2 (fun H hr1 z1 o1 hS => ?_)
  have hr1 : z_H (dC, dI) vwCl yf ca (yl 13) (yla r1) zM0 H := hr1
  have hH := hH.kept (fun i hi => o1 _ (hH.lt hi))
  have hMo := va_at.kept hMo (o1 _ (va_at.lt hMo))
  refine lv_dup hx hb dX10_manyNow_4 rfl ?_
  refine lv_iconst (v := 0) hx hb dX10_manyNow_5 (by decide) ?_
  refine lv_aload_n hx hb dX10_manyNow_6 rfl (lv_at hl 0 rfl) ?_
  refine yo_get (D := (dC, dI)) (cl := vwCl) (C := RX10) (T := TX10) (N := 3) (ci := 10) (v := .ref (ad 0)) hx hb hts hinX10 hown hK hMo rfl 1 (by decide) (hts (.fieldLink RX10 10 "SteamfieldModel" "field" "LSteamfieldModel$Field;") (by decide +kernel)) (fun _ h9 => h9) rfl dX10_manyNow_7 ?_
  refine z_giN (D := (dC, dI)) (cl := vwCl) (C := RX9) (T := TX9) (N := 24) (ci := 9) (k := 4) hx hb hts hinX9 hown hK hH (i := 0) yk_0 (by decide) rfl (by decide) rfl (hN (.fieldLinkNest RX10 20 "SteamfieldModel$Field" "manyBlocks" "I" "SteamfieldModel") (by decide +kernel)) (fun _ h9 => h9) dX10_manyNow_10 ?_
  refine y_num (b := 0) rfl ?_
  refine zp_as (t0 := 0) (D := (dC, dI)) (cl := vwCl) (tys := yt ca) hx hb hK hr1 (yl_I 13 r1) hS (by rintro q ⟨_, _, rfl⟩; exact Or.inr (Or.inr (show sz ≤ r1 from hgr1))) (i := 0) rfl rfl (show vp_in 0 13 from zx (n := 0) rfl (by decide) (by decide)) dX10_manyNow_13 (fun H locs hr1 oq hS => ?_)
  rw [show (0 : Int32).toNatClampNeg = 0 from rfl] at hr1
  rw [zu_same (show zM0 0 0 = 0 from rfl)] at hr1
  have hH := hH.kept (fun i hi => oq _ (by have b0 := hba i hi; have b1 := hgr1; simp only [yla]; omega))
  have hMo := va_at.kept hMo (oq _ (by have b0 := hbm; have b1 := hgr1; simp only [yla]; omega))
  refine lv_dup hx hb dX10_manyNow_14 rfl ?_
  refine lv_iconst (v := 1) hx hb dX10_manyNow_15 (by decide) ?_
  refine lv_aload_n hx hb dX10_manyNow_16 rfl (lv_at hl 0 rfl) ?_
  refine yo_get (D := (dC, dI)) (cl := vwCl) (C := RX10) (T := TX10) (N := 3) (ci := 10) (v := .ref (ad 0)) hx hb hts hinX10 hown hK hMo rfl 1 (by decide) (hts (.fieldLink RX10 10 "SteamfieldModel" "field" "LSteamfieldModel$Field;") (by decide +kernel)) (fun _ h9 => h9) rfl dX10_manyNow_17 ?_
  refine z_giN (D := (dC, dI)) (cl := vwCl) (C := RX9) (T := TX9) (N := 24) (ci := 9) (k := 5) hx hb hts hinX9 hown hK hH (i := 0) yk_0 (by decide) rfl (by decide) rfl (hN (.fieldLinkNest RX10 27 "SteamfieldModel$Field" "manyFaces" "I" "SteamfieldModel") (by decide +kernel)) (fun _ h9 => h9) dX10_manyNow_20 ?_
  refine y_num (b := 0) rfl ?_
  refine zp_as (t0 := 0) (D := (dC, dI)) (cl := vwCl) (tys := yt ca) hx hb hK hr1 (yl_I 13 r1) hS (by rintro q ⟨_, _, rfl⟩; exact Or.inr (Or.inr (show sz ≤ r1 from hgr1))) (i := 0) rfl rfl (show vp_in 1 13 from zx (n := 1) rfl (by decide) (by decide)) dX10_manyNow_23 (fun H locs hr1 oq hS => ?_)
  rw [show (1 : Int32).toNatClampNeg = 1 from rfl] at hr1
  rw [zu_same (show zM0 0 1 = 0 from rfl)] at hr1
  have hH := hH.kept (fun i hi => oq _ (by have b0 := hba i hi; have b1 := hgr1; simp only [yla]; omega))
  have hMo := va_at.kept hMo (oq _ (by have b0 := hbm; have b1 := hgr1; simp only [yla]; omega))
  refine lv_dup hx hb dX10_manyNow_24 rfl ?_
  refine lv_iconst (v := 2) hx hb dX10_manyNow_25 (by decide) ?_
  refine lv_aload_n hx hb dX10_manyNow_26 rfl (lv_at hl 0 rfl) ?_
  refine yo_get (D := (dC, dI)) (cl := vwCl) (C := RX10) (T := TX10) (N := 3) (ci := 10) (v := .ref (ad 0)) hx hb hts hinX10 hown hK hMo rfl 1 (by decide) (hts (.fieldLink RX10 10 "SteamfieldModel" "field" "LSteamfieldModel$Field;") (by decide +kernel)) (fun _ h9 => h9) rfl dX10_manyNow_27 ?_
  refine z_giN (D := (dC, dI)) (cl := vwCl) (C := RX9) (T := TX9) (N := 24) (ci := 9) (k := 6) hx hb hts hinX9 hown hK hH (i := 0) yk_0 (by decide) rfl (by decide) rfl (hN (.fieldLinkNest RX10 30 "SteamfieldModel$Field" "manyWells" "I" "SteamfieldModel") (by decide +kernel)) (fun _ h9 => h9) dX10_manyNow_30 ?_
  refine y_num (b := 0) rfl ?_
  refine zp_as (t0 := 0) (D := (dC, dI)) (cl := vwCl) (tys := yt ca) hx hb hK hr1 (yl_I 13 r1) hS (by rintro q ⟨_, _, rfl⟩; exact Or.inr (Or.inr (show sz ≤ r1 from hgr1))) (i := 0) rfl rfl (show vp_in 2 13 from zx (n := 2) rfl (by decide) (by decide)) dX10_manyNow_33 (fun H locs hr1 oq hS => ?_)
  rw [show (2 : Int32).toNatClampNeg = 2 from rfl] at hr1
  rw [zu_same (show zM0 0 2 = 0 from rfl)] at hr1
  have hH := hH.kept (fun i hi => oq _ (by have b0 := hba i hi; have b1 := hgr1; simp only [yla]; omega))
  have hMo := va_at.kept hMo (oq _ (by have b0 := hbm; have b1 := hgr1; simp only [yla]; omega))
  refine lv_dup hx hb dX10_manyNow_34 rfl ?_
  refine lv_iconst (v := 3) hx hb dX10_manyNow_35 (by decide) ?_
  refine lv_aload_n hx hb dX10_manyNow_36 rfl (lv_at hl 0 rfl) ?_
  refine yo_get (D := (dC, dI)) (cl := vwCl) (C := RX10) (T := TX10) (N := 3) (ci := 10) (v := .ref (ad 0)) hx hb hts hinX10 hown hK hMo rfl 1 (by decide) (hts (.fieldLink RX10 10 "SteamfieldModel" "field" "LSteamfieldModel$Field;") (by decide +kernel)) (fun _ h9 => h9) rfl dX10_manyNow_37 ?_
  refine z_giN (D := (dC, dI)) (cl := vwCl) (C := RX9) (T := TX9) (N := 24) (ci := 9) (k := 7) hx hb hts hinX9 hown hK hH (i := 0) yk_0 (by decide) rfl (by decide) rfl (hN (.fieldLinkNest RX10 33 "SteamfieldModel$Field" "manySprings" "I" "SteamfieldModel") (by decide +kernel)) (fun _ h9 => h9) dX10_manyNow_40 ?_
  refine y_num (b := 0) rfl ?_
  refine zp_as (t0 := 0) (D := (dC, dI)) (cl := vwCl) (tys := yt ca) hx hb hK hr1 (yl_I 13 r1) hS (by rintro q ⟨_, _, rfl⟩; exact Or.inr (Or.inr (show sz ≤ r1 from hgr1))) (i := 0) rfl rfl (show vp_in 3 13 from zx (n := 3) rfl (by decide) (by decide)) dX10_manyNow_43 (fun H locs hr1 oq hS => ?_)
  rw [show (3 : Int32).toNatClampNeg = 3 from rfl] at hr1
  rw [zu_same (show zM0 0 3 = 0 from rfl)] at hr1
  have hH := hH.kept (fun i hi => oq _ (by have b0 := hba i hi; have b1 := hgr1; simp only [yla]; omega))
  have hMo := va_at.kept hMo (oq _ (by have b0 := hbm; have b1 := hgr1; simp only [yla]; omega))
  refine lv_dup hx hb dX10_manyNow_44 rfl ?_
  refine lv_iconst (v := 4) hx hb dX10_manyNow_45 (by decide) ?_
  refine lv_aload_n hx hb dX10_manyNow_46 rfl (lv_at hl 0 rfl) ?_
  refine yo_get (D := (dC, dI)) (cl := vwCl) (C := RX10) (T := TX10) (N := 3) (ci := 10) (v := .ref (ad 0)) hx hb hts hinX10 hown hK hMo rfl 1 (by decide) (hts (.fieldLink RX10 10 "SteamfieldModel" "field" "LSteamfieldModel$Field;") (by decide +kernel)) (fun _ h9 => h9) rfl dX10_manyNow_47 ?_
  refine z_giN (D := (dC, dI)) (cl := vwCl) (C := RX9) (T := TX9) (N := 24) (ci := 9) (k := 17) hx hb hts hinX9 hown hK hH (i := 0) yk_0 (by decide) rfl (by decide) rfl (hN (.fieldLinkNest RX10 128 "SteamfieldModel$Field" "now" "I" "SteamfieldModel") (by decide +kernel)) (fun _ h9 => h9) dX10_manyNow_50 ?_
  refine y_num (b := 0) rfl ?_
  refine zp_as (t0 := 0) (D := (dC, dI)) (cl := vwCl) (tys := yt ca) hx hb hK hr1 (yl_I 13 r1) hS (by rintro q ⟨_, _, rfl⟩; exact Or.inr (Or.inr (show sz ≤ r1 from hgr1))) (i := 0) rfl rfl (show vp_in 4 13 from zx (n := 4) rfl (by decide) (by decide)) dX10_manyNow_53 (fun H locs hr1 oq hS => ?_)
  rw [show (4 : Int32).toNatClampNeg = 4 from rfl] at hr1
  rw [zu_same (show zM0 0 4 = 0 from rfl)] at hr1
  have hH := hH.kept (fun i hi => oq _ (by have b0 := hba i hi; have b1 := hgr1; simp only [yla]; omega))
  have hMo := va_at.kept hMo (oq _ (by have b0 := hbm; have b1 := hgr1; simp only [yla]; omega))
  refine lv_dup hx hb dX10_manyNow_54 rfl ?_
  refine lv_iconst (v := 5) hx hb dX10_manyNow_55 (by decide) ?_
  refine lv_aload_n hx hb dX10_manyNow_56 rfl (lv_at hl 0 rfl) ?_
  refine yo_get (D := (dC, dI)) (cl := vwCl) (C := RX10) (T := TX10) (N := 3) (ci := 10) (v := .ref (ad 0)) hx hb hts hinX10 hown hK hMo rfl 1 (by decide) (hts (.fieldLink RX10 10 "SteamfieldModel" "field" "LSteamfieldModel$Field;") (by decide +kernel)) (fun _ h9 => h9) rfl dX10_manyNow_57 ?_
  refine y_cVi (D := (dC, dI)) (cl := vwCl) (tys := yt ca) (nw := zw_nest) (C := RX9) (As := []) (rest := [.int 5, .ref (yla r1 0), .ref (yla r1 0)]) ⟨hx, hb, hml, hown, hts⟩ (m_X9_light l dC dI ca ad hI 0 (by decide)  ) (cwV 0 hts gX10_manyNow_X9_light rfl rfl rfl (by decide +kernel) ⟨Nat.le_of_ble_eq_true rfl, Nat.le_of_ble_eq_true rfl⟩) (z_recv (ci := 9) (i := 0) hK hH yk_0 (by decide) rfl) hH hK hN hX zw_nest_ok rfl hl.1 rfl (Nat.le_of_ble_eq_true rfl) dX10_manyNow_60 ⟨Nat.le_of_ble_eq_true rfl, Nat.le_of_ble_eq_true rfl⟩ hS (fun _ h => Or.inr (Or.inl h)) (fun H locs hB1 oq1 hz1 hS => ?_)
  have hMo := va_at.kept hMo (oq1 _ (va_at.lt hMo) (fun ⟨j, hj, e9⟩ => hm j hj e9))
  have hr1 := hr1.kept (fun i hi => oq1 _ (hr1.lt hi) (by rintro ⟨j, hj, e9⟩; have b0 := hgr1; have b1 := hba j hj; have e8 : ad j = r1 := e9; omega))
  have hH : z_H (dC, dI) vwCl yf ca yd ad (yM 0) H := hB1
  refine zp_as (t0 := 0) (D := (dC, dI)) (cl := vwCl) (tys := yt ca) hx hb hK hr1 (yl_I 13 r1) hS (by rintro q ⟨_, _, rfl⟩; exact Or.inr (Or.inr (show sz ≤ r1 from hgr1))) (i := 0) rfl rfl (show vp_in 5 13 from zx (n := 5) rfl (by decide) (by decide)) dX10_manyNow_63 (fun H locs hr1 oq hS => ?_)
  rw [show (5 : Int32).toNatClampNeg = 5 from rfl] at hr1
  rw [zu_same (show zM0 0 5 = 0 from rfl)] at hr1
  have hH := hH.kept (fun i hi => oq _ (by have b0 := hba i hi; have b1 := hgr1; simp only [yla]; omega))
  have hMo := va_at.kept hMo (oq _ (by have b0 := hbm; have b1 := hgr1; simp only [yla]; omega))
  refine lv_dup hx hb dX10_manyNow_64 rfl ?_
  refine lv_bipush (v := 6) hx hb dX10_manyNow_65 (by decide) ?_
  refine lv_aload_n hx hb dX10_manyNow_67 rfl (lv_at hl 0 rfl) ?_
  refine yo_get (D := (dC, dI)) (cl := vwCl) (C := RX10) (T := TX10) (N := 3) (ci := 10) (v := .ref (ad 0)) hx hb hts hinX10 hown hK hMo rfl 1 (by decide) (hts (.fieldLink RX10 10 "SteamfieldModel" "field" "LSteamfieldModel$Field;") (by decide +kernel)) (fun _ h9 => h9) rfl dX10_manyNow_68 ?_
  refine z_grN (D := (dC, dI)) (cl := vwCl) (C := RX9) (T := TX9) (N := 24) (ci := 9) (k := 13) hx hb hts hinX9 hown hK hH (i := 0) yk_0 (by decide) rfl (by decide) rfl yr_13 (hN (.fieldLinkNest RX10 135 "SteamfieldModel$Field" "shocks" "[I" "SteamfieldModel") (by decide +kernel)) (fun _ h9 => h9) dX10_manyNow_71 ?_
  refine lv_aload_n hx hb dX10_manyNow_74 rfl (lv_at hl 0 rfl) ?_
  refine yo_get (D := (dC, dI)) (cl := vwCl) (C := RX10) (T := TX10) (N := 3) (ci := 10) (v := .ref (ad 0)) hx hb hts hinX10 hown hK hMo rfl 1 (by decide) (hts (.fieldLink RX10 10 "SteamfieldModel" "field" "LSteamfieldModel$Field;") (by decide +kernel)) (fun _ h9 => h9) rfl dX10_manyNow_75 ?_
  refine z_giN (D := (dC, dI)) (cl := vwCl) (C := RX9) (T := TX9) (N := 24) (ci := 9) (k := 17) hx hb hts hinX9 hown hK hH (i := 0) yk_0 (by decide) rfl (by decide) rfl (hN (.fieldLinkNest RX10 128 "SteamfieldModel$Field" "now" "I" "SteamfieldModel") (by decide +kernel)) (fun _ h9 => h9) dX10_manyNow_78 ?_
  refine y_num (b := 0) rfl ?_
  refine lv_iconst (v := 4) hx hb dX10_manyNow_81 (by decide) ?_
  refine lv_irem hx hb dX10_manyNow_82 (by decide) ?_
  refine y_num (b := 0) (by decide) ?_
  refine z_al (t0 := 0) (D := (dC, dI)) (cl := vwCl) (tys := yt ca) hx hb hK hH (i := 39) yk_39 rfl (show vp_in 0 4 from zx (n := 0) rfl (by decide) (by decide)) dX10_manyNow_83 ?_
  refine y_num (b := 0) rfl ?_
  refine zp_as (t0 := 0) (D := (dC, dI)) (cl := vwCl) (tys := yt ca) hx hb hK hr1 (yl_I 13 r1) hS (by rintro q ⟨_, _, rfl⟩; exact Or.inr (Or.inr (show sz ≤ r1 from hgr1))) (i := 0) rfl rfl (show vp_in 6 13 from zx (n := 6) rfl (by decide) (by decide)) dX10_manyNow_84 (fun H locs hr1 oq hS => ?_)
  rw [show (6 : Int32).toNatClampNeg = 6 from rfl] at hr1
  rw [zu_same (show zM0 0 6 = 0 from rfl)] at hr1
  have hH := hH.kept (fun i hi => oq _ (by have b0 := hba i hi; have b1 := hgr1; simp only [yla]; omega))
  have hMo := va_at.kept hMo (oq _ (by have b0 := hbm; have b1 := hgr1; simp only [yla]; omega))
  refine lv_dup hx hb dX10_manyNow_85 rfl ?_
  refine lv_bipush (v := 7) hx hb dX10_manyNow_86 (by decide) ?_
  refine lv_aload_n hx hb dX10_manyNow_88 rfl (lv_at hl 0 rfl) ?_
  refine yo_get (D := (dC, dI)) (cl := vwCl) (C := RX10) (T := TX10) (N := 3) (ci := 10) (v := .ref (ad 0)) hx hb hts hinX10 hown hK hMo rfl 1 (by decide) (hts (.fieldLink RX10 10 "SteamfieldModel" "field" "LSteamfieldModel$Field;") (by decide +kernel)) (fun _ h9 => h9) rfl dX10_manyNow_89 ?_
  refine z_giN (D := (dC, dI)) (cl := vwCl) (C := RX9) (T := TX9) (N := 24) (ci := 9) (k := 16) hx hb hts hinX9 hown hK hH (i := 0) yk_0 (by decide) rfl (by decide) rfl (hN (.fieldLinkNest RX10 70 "SteamfieldModel$Field" "runs" "Z" "SteamfieldModel") (by decide +kernel)) (fun _ h9 => h9) dX10_manyNow_92 ?_
  refine y_num (b := 1) rfl ?_
  refine lv_if_eq (tgt := 102) hx hb dX10_manyNow_95 (by decide) (fun c9 => absurd c9 (by decide)) (fun _ => ?_)
  refine lv_iconst (v := 1) hx hb dX10_manyNow_98 (by decide) ?_
  refine lv_goto (tgt := 103) hx hb dX10_manyNow_99 (by decide) ?_
  refine zp_as (t0 := 0) (D := (dC, dI)) (cl := vwCl) (tys := yt ca) hx hb hK hr1 (yl_I 13 r1) hS (by rintro q ⟨_, _, rfl⟩; exact Or.inr (Or.inr (show sz ≤ r1 from hgr1))) (i := 0) rfl rfl (show vp_in 7 13 from zx (n := 7) rfl (by decide) (by decide)) dX10_manyNow_103 (fun H locs hr1 oq hS => ?_)
  rw [show (7 : Int32).toNatClampNeg = 7 from rfl] at hr1
  have hH := hH.kept (fun i hi => oq _ (by have b0 := hba i hi; have b1 := hgr1; simp only [yla]; omega))
  have hMo := va_at.kept hMo (oq _ (by have b0 := hbm; have b1 := hgr1; simp only [yla]; omega))
  refine lv_dup hx hb dX10_manyNow_104 rfl ?_
  refine lv_bipush (v := 8) hx hb dX10_manyNow_105 (by decide) ?_
  refine lv_aload_n hx hb dX10_manyNow_107 rfl (lv_at hl 0 rfl) ?_
  refine yo_get (D := (dC, dI)) (cl := vwCl) (C := RX10) (T := TX10) (N := 3) (ci := 10) (v := .ref (ad 0)) hx hb hts hinX10 hown hK hMo rfl 1 (by decide) (hts (.fieldLink RX10 10 "SteamfieldModel" "field" "LSteamfieldModel$Field;") (by decide +kernel)) (fun _ h9 => h9) rfl dX10_manyNow_108 ?_
  refine z_giN (D := (dC, dI)) (cl := vwCl) (C := RX9) (T := TX9) (N := 24) (ci := 9) (k := 14) hx hb hts hinX9 hown hK hH (i := 0) yk_0 (by decide) rfl (by decide) rfl (hN (.fieldLinkNest RX10 67 "SteamfieldModel$Field" "size" "I" "SteamfieldModel") (by decide +kernel)) (fun _ h9 => h9) dX10_manyNow_111 ?_
  refine y_num (b := 20) rfl ?_
  refine zp_as (t0 := 0) (D := (dC, dI)) (cl := vwCl) (tys := yt ca) hx hb hK hr1 (yl_I 13 r1) hS (by rintro q ⟨_, _, rfl⟩; exact Or.inr (Or.inr (show sz ≤ r1 from hgr1))) (i := 0) rfl rfl (show vp_in 8 13 from zx (n := 8) rfl (by decide) (by decide)) dX10_manyNow_114 (fun H locs hr1 oq hS => ?_)
  rw [show (8 : Int32).toNatClampNeg = 8 from rfl] at hr1
  have hH := hH.kept (fun i hi => oq _ (by have b0 := hba i hi; have b1 := hgr1; simp only [yla]; omega))
  have hMo := va_at.kept hMo (oq _ (by have b0 := hbm; have b1 := hgr1; simp only [yla]; omega))
  refine lv_dup hx hb dX10_manyNow_115 rfl ?_
  refine lv_bipush (v := 9) hx hb dX10_manyNow_116 (by decide) ?_
  refine lv_aload_n hx hb dX10_manyNow_118 rfl (lv_at hl 0 rfl) ?_
  refine yo_get (D := (dC, dI)) (cl := vwCl) (C := RX10) (T := TX10) (N := 3) (ci := 10) (v := .ref (ad 0)) hx hb hts hinX10 hown hK hMo rfl 1 (by decide) (hts (.fieldLink RX10 10 "SteamfieldModel" "field" "LSteamfieldModel$Field;") (by decide +kernel)) (fun _ h9 => h9) rfl dX10_manyNow_119 ?_
  refine z_giN (D := (dC, dI)) (cl := vwCl) (C := RX9) (T := TX9) (N := 24) (ci := 9) (k := 18) hx hb hts hinX9 hown hK hH (i := 0) yk_0 (by decide) rfl (by decide) rfl (hN (.fieldLinkNest RX10 138 "SteamfieldModel$Field" "power" "I" "SteamfieldModel") (by decide +kernel)) (fun _ h9 => h9) dX10_manyNow_122 ?_
  refine y_num (b := 0) rfl ?_
  refine zp_as (t0 := 0) (D := (dC, dI)) (cl := vwCl) (tys := yt ca) hx hb hK hr1 (yl_I 13 r1) hS (by rintro q ⟨_, _, rfl⟩; exact Or.inr (Or.inr (show sz ≤ r1 from hgr1))) (i := 0) rfl rfl (show vp_in 9 13 from zx (n := 9) rfl (by decide) (by decide)) dX10_manyNow_125 (fun H locs hr1 oq hS => ?_)
  rw [show (9 : Int32).toNatClampNeg = 9 from rfl] at hr1
  rw [zu_same (show (zu (zu zM0 0 7 1) 0 8 20) 0 9 = 0 from rfl)] at hr1
  have hH := hH.kept (fun i hi => oq _ (by have b0 := hba i hi; have b1 := hgr1; simp only [yla]; omega))
  have hMo := va_at.kept hMo (oq _ (by have b0 := hbm; have b1 := hgr1; simp only [yla]; omega))
  refine lv_dup hx hb dX10_manyNow_126 rfl ?_
  refine lv_bipush (v := 10) hx hb dX10_manyNow_127 (by decide) ?_
  refine lv_aload_n hx hb dX10_manyNow_129 rfl (lv_at hl 0 rfl) ?_
  refine yo_get (D := (dC, dI)) (cl := vwCl) (C := RX10) (T := TX10) (N := 3) (ci := 10) (v := .ref (ad 0)) hx hb hts hinX10 hown hK hMo rfl 1 (by decide) (hts (.fieldLink RX10 10 "SteamfieldModel" "field" "LSteamfieldModel$Field;") (by decide +kernel)) (fun _ h9 => h9) rfl dX10_manyNow_130 ?_
  refine z_giN (D := (dC, dI)) (cl := vwCl) (C := RX9) (T := TX9) (N := 24) (ci := 9) (k := 19) hx hb hts hinX9 hown hK hH (i := 0) yk_0 (by decide) rfl (by decide) rfl (hN (.fieldLinkNest RX10 141 "SteamfieldModel$Field" "allPower" "I" "SteamfieldModel") (by decide +kernel)) (fun _ h9 => h9) dX10_manyNow_133 ?_
  refine y_num (b := 0) rfl ?_
  refine zp_as (t0 := 0) (D := (dC, dI)) (cl := vwCl) (tys := yt ca) hx hb hK hr1 (yl_I 13 r1) hS (by rintro q ⟨_, _, rfl⟩; exact Or.inr (Or.inr (show sz ≤ r1 from hgr1))) (i := 0) rfl rfl (show vp_in 10 13 from zx (n := 10) rfl (by decide) (by decide)) dX10_manyNow_136 (fun H locs hr1 oq hS => ?_)
  rw [show (10 : Int32).toNatClampNeg = 10 from rfl] at hr1
  rw [zu_same (show (zu (zu zM0 0 7 1) 0 8 20) 0 10 = 0 from rfl)] at hr1
  have hH := hH.kept (fun i hi => oq _ (by have b0 := hba i hi; have b1 := hgr1; simp only [yla]; omega))
  have hMo := va_at.kept hMo (oq _ (by have b0 := hbm; have b1 := hgr1; simp only [yla]; omega))
  refine lv_dup hx hb dX10_manyNow_137 rfl ?_
  refine lv_bipush (v := 11) hx hb dX10_manyNow_138 (by decide) ?_
  refine lv_aload_n hx hb dX10_manyNow_140 rfl (lv_at hl 0 rfl) ?_
  refine yo_get (D := (dC, dI)) (cl := vwCl) (C := RX10) (T := TX10) (N := 3) (ci := 10) (v := .ref (ad 0)) hx hb hts hinX10 hown hK hMo rfl 1 (by decide) (hts (.fieldLink RX10 10 "SteamfieldModel" "field" "LSteamfieldModel$Field;") (by decide +kernel)) (fun _ h9 => h9) rfl dX10_manyNow_141 ?_
  refine z_giN (D := (dC, dI)) (cl := vwCl) (C := RX9) (T := TX9) (N := 24) (ci := 9) (k := 20) hx hb hts hinX9 hown hK hH (i := 0) yk_0 (by decide) rfl (by decide) rfl (hN (.fieldLinkNest RX10 144 "SteamfieldModel$Field" "warmed" "I" "SteamfieldModel") (by decide +kernel)) (fun _ h9 => h9) dX10_manyNow_144 ?_
  refine y_num (b := 0) rfl ?_
  refine zp_as (t0 := 0) (D := (dC, dI)) (cl := vwCl) (tys := yt ca) hx hb hK hr1 (yl_I 13 r1) hS (by rintro q ⟨_, _, rfl⟩; exact Or.inr (Or.inr (show sz ≤ r1 from hgr1))) (i := 0) rfl rfl (show vp_in 11 13 from zx (n := 11) rfl (by decide) (by decide)) dX10_manyNow_147 (fun H locs hr1 oq hS => ?_)
  rw [show (11 : Int32).toNatClampNeg = 11 from rfl] at hr1
  rw [zu_same (show (zu (zu zM0 0 7 1) 0 8 20) 0 11 = 0 from rfl)] at hr1
  have hH := hH.kept (fun i hi => oq _ (by have b0 := hba i hi; have b1 := hgr1; simp only [yla]; omega))
  have hMo := va_at.kept hMo (oq _ (by have b0 := hbm; have b1 := hgr1; simp only [yla]; omega))
  refine lv_dup hx hb dX10_manyNow_148 rfl ?_
  refine lv_bipush (v := 12) hx hb dX10_manyNow_149 (by decide) ?_
  refine lv_aload_n hx hb dX10_manyNow_151 rfl (lv_at hl 0 rfl) ?_
  refine yo_get (D := (dC, dI)) (cl := vwCl) (C := RX10) (T := TX10) (N := 3) (ci := 10) (v := .ref (ad 0)) hx hb hts hinX10 hown hK hMo rfl 1 (by decide) (hts (.fieldLink RX10 10 "SteamfieldModel" "field" "LSteamfieldModel$Field;") (by decide +kernel)) (fun _ h9 => h9) rfl dX10_manyNow_152 ?_
  refine y_cVi (D := (dC, dI)) (cl := vwCl) (tys := yt ca) (nw := zw_nest) (C := RX9) (As := []) (rest := [.int 12, .ref (yla r1 0), .ref (yla r1 0)]) ⟨hx, hb, hml, hown, hts⟩ (m_X9_lacks l dC dI ca ad hI 0 (by decide)  ) (cwV 0 hts gX10_manyNow_X9_lacks rfl rfl rfl (by decide +kernel) ⟨Nat.le_of_ble_eq_true rfl, Nat.le_of_ble_eq_true rfl⟩) (z_recv (ci := 9) (i := 0) hK hH yk_0 (by decide) rfl) hH hK hN hX zw_nest_ok rfl hl.1 rfl (Nat.le_of_ble_eq_true rfl) dX10_manyNow_155 ⟨Nat.le_of_ble_eq_true rfl, Nat.le_of_ble_eq_true rfl⟩ hS (fun _ h => Or.inr (Or.inl h)) (fun H locs hB1 oq1 hz1 hS => ?_)
  have hMo := va_at.kept hMo (oq1 _ (va_at.lt hMo) (fun ⟨j, hj, e9⟩ => hm j hj e9))
  have hr1 := hr1.kept (fun i hi => oq1 _ (hr1.lt hi) (by rintro ⟨j, hj, e9⟩; have b0 := hgr1; have b1 := hba j hj; have e8 : ad j = r1 := e9; omega))
  have hH : z_H (dC, dI) vwCl yf ca yd ad (yM 0) H := hB1
  refine zp_as (t0 := 0) (D := (dC, dI)) (cl := vwCl) (tys := yt ca) hx hb hK hr1 (yl_I 13 r1) hS (by rintro q ⟨_, _, rfl⟩; exact Or.inr (Or.inr (show sz ≤ r1 from hgr1))) (i := 0) rfl rfl (show vp_in 12 13 from zx (n := 12) rfl (by decide) (by decide)) dX10_manyNow_158 (fun H locs hr1 oq hS => ?_)
  rw [show (12 : Int32).toNatClampNeg = 12 from rfl] at hr1
  rw [zu_same (show (zu (zu zM0 0 7 1) 0 8 20) 0 12 = 0 from rfl)] at hr1
  have hH := hH.kept (fun i hi => oq _ (by have b0 := hba i hi; have b1 := hgr1; simp only [yla]; omega))
  have hMo := va_at.kept hMo (oq _ (by have b0 := hbm; have b1 := hgr1; simp only [yla]; omega))
  refine lv_astore_n (lv' := [(2, .ref (yla r1 0)), (0, .ref mo), (1, .int a1)]) hx hb dX10_manyNow_159 rfl hl (by decide) rfl (fun ls hl => ?_)
  refine lv_aload_n hx hb dX10_manyNow_160 rfl (lv_at hl 0 rfl) ?_
  refine lv_iload_n hx hb dX10_manyNow_161 rfl (lv_at hl 2 rfl) ?_
  refine z_al (t0 := 0) (D := (dC, dI)) (cl := vwCl) (tys := yt ca) hx hb hK hr1 (i := 0) rfl rfl (show vp_in a1 13 from z_ix.in (z_ix_rg h (by decide) (by decide))) dX10_manyNow_162 ?_
  refine y_num (b := (yMany a1)) (y_many h) ?_
  refine W.widen (k := 1) (n := 13) (Nat.le_of_ble_eq_true rfl) (Nat.le_of_ble_eq_true rfl) ?_
  exact W.iret (v := (yMany a1)) hx hb hr (fun t ht hW => ⟨⟨(yMany a1), (), rfl, rfl, z_to (B := (fun H => yMo dC dI mo th (ad 0) sm H ∧ yW dC dI ca ad (yM 0) H)) ht ⟨hMo, hH⟩⟩, hS.F ht⟩) hS.2.2 dX10_manyNow_163
set_option maxHeartbeats 4000000 in
set_option maxRecDepth 100000 in
theorem m_X10_manyy (l : Launch) (dC : Nat → ClassId) (dI : Nat → Nat → Nat) (ca : Nat → ClassId) (mo sz : Nat) (ad : Nat → Nat) (hI : z_I yd ad) (hm : ∀ i, yd.1 i < 200 → ad i ≠ mo) (th : Int32) (sm : Int64) (a1 : Int32) (h : z_rg a1 0 12): Met l yX10_many wsX10_many ({ frames := 2, cells := 1, slots := 13, locals := 44 }) (z_Py (dC, dI) vwCl (yt ca) zw_nest [.ref mo, .int a1] (fun H => H.size = sz ∧ yMo dC dI mo th (ad 0) sm H ∧ yW dC dI ca ad (yM 0) H)) (z_Qi (yMany a1) (fun H => yMo dC dI mo 0 (ad 0) sm H ∧ yW dC dI ca ad (yM 0) H) (yA mo ad sz)) 1 13 (yA mo ad sz) := by
  refine Met.ofW (cc := cX10_many) (maxL := 2) (ret := (some .int)) (by decide) rfl ?_
  intro p e s m args below meth c s₁ B9 hml hv
  obtain ⟨rfl, ⟨hz, hMo, hH⟩, hK, hN, hX⟩ := hv
  have hx := B9.exec
  have hb := B9.bytes
  have hr := B9.returns
  have hts := atoms_spec (ws := wsX10_many) B9.pre
  have hown : s.vm.findClass RX10 = some m.cls := findClass_of_methodNamed B9.named
  have hlocks := B9.notSynchronized
  have hS : va_S (yA mo ad sz) s.heap s.heap [] := va_S.rf
  have hba : ∀ i, yd.1 i < 200 → ad i < sz := fun i hi => by have b0 := hH.lt hi; omega
  have hbm : mo < sz := by have b0 := va_at.lt hMo; exact hz ▸ b0
  have hAs : ∀ q, s.heap.size ≤ q → (yA mo ad sz) q := fun q h => Or.inr (Or.inr (hz ▸ h))
  have hinX10 : ∀ w ∈ u_ws RX10 TX10 3, w ∈ wsX10_many := by decide +kernel
  have hl := lv_entry ([.ref mo, .int a1]) (n := 2) (Nat.le_of_ble_eq_true rfl)
  rw [lg_entry_eq]
  generalize (lg_sl ([.ref mo, .int a1]) ++ List.replicate (2 - (lg_sl ([.ref mo, .int a1])).length) Slot.unset).toArray = ls at hl ⊢
  have hl : lv_has ls 2 [(0, .ref mo), (1, .int a1)] := hl
  refine lv_aload_n hx hb dX10_many_0 rfl (lv_at hl 0 rfl) ?_
  refine lv_iconst (v := 0) hx hb dX10_many_1 (by decide) ?_
  refine yo_put (D := (dC, dI)) (cl := vwCl) (C := RX10) (T := TX10) (N := 3) (ci := 10) (ty := .int) hx hb hts hinX10 tyX10 tyX10_ok nmX10 hown hK hMo hS (Or.inl rfl) rfl 0 (by decide) (hts (.fieldLink RX10 16 "SteamfieldModel" "thrown" "I") (by decide +kernel)) (fun _ h9 => h9) rfl (by decide +kernel) rfl rfl (show 0 < 3 by decide) dX10_many_2 (fun H locs hMo z9 oq hS => ?_)
  have hMo : yMo dC dI mo 0 (ad 0) sm H := hMo
  have hH := hH.kept (fun i hi => oq _ (hm i hi))
  refine lv_iload_n hx hb dX10_many_5 rfl (lv_at hl 1 rfl) ?_
  refine lv_iconst (v := 0) hx hb dX10_many_6 (by decide) ?_
  refine lv_bipush (v := 12) hx hb dX10_many_7 (by decide) ?_
  refine y_cSi (D := (dC, dI)) (cl := vwCl) (tys := yt ca) (nw := zw_nest) (As := [.int a1, .int 0, .int 12]) (rest := []) ⟨hx, hb, hml, hown, hts⟩ (m_X10_isy l dC dI ca (fun z : Heap => z = H) a1 0 12 h) (cwS 3 hts gX10_many_X10_is rfl rfl rfl (by decide +kernel) ⟨Nat.le_of_ble_eq_true rfl, Nat.le_of_ble_eq_true rfl⟩) rfl hK hN hX zw_nest_ok rfl hl.1 rfl (Nat.le_of_ble_eq_true rfl) dX10_many_9 ⟨Nat.le_of_ble_eq_true rfl, Nat.le_of_ble_eq_true rfl⟩ hS (fun _ h => h.elim) (fun H locs hB1 oq1 hz1 hS => ?_)
  have hH : z_H (dC, dI) vwCl yf ca yd ad (yM 0) H := by rw [hB1]; exact hH
  have hMo : yMo dC dI mo 0 (ad 0) sm H := by rw [hB1]; exact hMo
  refine lv_if_eq (tgt := 23) hx hb dX10_many_12 (by decide) (fun c9 => absurd c9 (by decide)) (fun _ => ?_)
  refine lv_aload_n hx hb dX10_many_15 rfl (lv_at hl 0 rfl) ?_
  refine lv_iload_n hx hb dX10_many_16 rfl (lv_at hl 1 rfl) ?_
  refine y_cVi (D := (dC, dI)) (cl := vwCl) (tys := yt ca) (nw := zw_nest) (C := RX10) (As := [.int a1]) (rest := []) ⟨hx, hb, hml, hown, hts⟩ (m_X10_manyNow l dC dI ca mo H.size ad hI hm 0 sm a1 h) (cwV 1 hts gX10_many_X10_manyNow rfl rfl rfl (by decide +kernel) ⟨Nat.le_of_ble_eq_true rfl, Nat.le_of_ble_eq_true rfl⟩) (va_recv hK (y_one hMo) (ci := 10) rfl (q0 := 0) rfl) ⟨rfl, hMo, hH⟩ hK hN hX zw_nest_ok rfl hl.1 rfl (Nat.le_of_ble_eq_true rfl) dX10_many_17 ⟨Nat.le_of_ble_eq_true rfl, Nat.le_of_ble_eq_true rfl⟩ hS (yA_mono (by have b0 := hS.1; omega)) (fun H locs hB1 oq1 hz1 hS => ?_)
  obtain ⟨hMo, hH⟩ := hB1
  refine lv_goto (tgt := 28) hx hb dX10_many_20 (by decide) ?_
  refine W.widen (k := 1) (n := 13) (Nat.le_of_ble_eq_true rfl) (Nat.le_of_ble_eq_true rfl) ?_
  exact W.iret (v := (yMany a1)) hx hb hr (fun t ht hW => ⟨⟨(yMany a1), (), rfl, rfl, z_to (B := (fun H => yMo dC dI mo 0 (ad 0) sm H ∧ yW dC dI ca ad (yM 0) H)) ht ⟨hMo, hH⟩⟩, hS.F ht⟩) hS.2.2 dX10_many_28
set_option maxHeartbeats 4000000 in
set_option maxRecDepth 100000 in
theorem m_X10_manyn (l : Launch) (dC : Nat → ClassId) (dI : Nat → Nat → Nat) (ca : Nat → ClassId) (mo sz : Nat) (ad : Nat → Nat) (hI : z_I yd ad) (hm : ∀ i, yd.1 i < 200 → ad i ≠ mo) (th : Int32) (sm : Int64) (a1 : Int32) (h : ¬ z_rg a1 0 12): Met l yX10_many wsX10_many ({ frames := 1, cells := 0, slots := 0, locals := 22 }) (z_Py (dC, dI) vwCl (yt ca) zw_nest [.ref mo, .int a1] (fun H => H.size = sz ∧ yMo dC dI mo th (ad 0) sm H ∧ yW dC dI ca ad (yM 0) H)) (z_Qi 0 (fun H => yMo dC dI mo 1 (ad 0) sm H ∧ yW dC dI ca ad (yM 0) H) (yA mo ad sz)) 0 0 (yA mo ad sz) := by
  refine Met.ofW (cc := cX10_many) (maxL := 2) (ret := (some .int)) (by decide) rfl ?_
  intro p e s m args below meth c s₁ B9 hml hv
  obtain ⟨rfl, ⟨hz, hMo, hH⟩, hK, hN, hX⟩ := hv
  have hx := B9.exec
  have hb := B9.bytes
  have hr := B9.returns
  have hts := atoms_spec (ws := wsX10_many) B9.pre
  have hown : s.vm.findClass RX10 = some m.cls := findClass_of_methodNamed B9.named
  have hlocks := B9.notSynchronized
  have hS : va_S (yA mo ad sz) s.heap s.heap [] := va_S.rf
  have hba : ∀ i, yd.1 i < 200 → ad i < sz := fun i hi => by have b0 := hH.lt hi; omega
  have hbm : mo < sz := by have b0 := va_at.lt hMo; exact hz ▸ b0
  have hAs : ∀ q, s.heap.size ≤ q → (yA mo ad sz) q := fun q h => Or.inr (Or.inr (hz ▸ h))
  have hinX10 : ∀ w ∈ u_ws RX10 TX10 3, w ∈ wsX10_many := by decide +kernel
  have hl := lv_entry ([.ref mo, .int a1]) (n := 2) (Nat.le_of_ble_eq_true rfl)
  rw [lg_entry_eq]
  generalize (lg_sl ([.ref mo, .int a1]) ++ List.replicate (2 - (lg_sl ([.ref mo, .int a1])).length) Slot.unset).toArray = ls at hl ⊢
  have hl : lv_has ls 2 [(0, .ref mo), (1, .int a1)] := hl
  refine lv_aload_n hx hb dX10_many_0 rfl (lv_at hl 0 rfl) ?_
  refine lv_iconst (v := 0) hx hb dX10_many_1 (by decide) ?_
  refine yo_put (D := (dC, dI)) (cl := vwCl) (C := RX10) (T := TX10) (N := 3) (ci := 10) (ty := .int) hx hb hts hinX10 tyX10 tyX10_ok nmX10 hown hK hMo hS (Or.inl rfl) rfl 0 (by decide) (hts (.fieldLink RX10 16 "SteamfieldModel" "thrown" "I") (by decide +kernel)) (fun _ h9 => h9) rfl (by decide +kernel) rfl rfl (show 0 < 3 by decide) dX10_many_2 (fun H locs hMo z9 oq hS => ?_)
  have hMo : yMo dC dI mo 0 (ad 0) sm H := hMo
  have hH := hH.kept (fun i hi => oq _ (hm i hi))
  refine lv_iload_n hx hb dX10_many_5 rfl (lv_at hl 1 rfl) ?_
  refine lv_iconst (v := 0) hx hb dX10_many_6 (by decide) ?_
  refine lv_bipush (v := 12) hx hb dX10_many_7 (by decide) ?_
  refine y_cSi (D := (dC, dI)) (cl := vwCl) (tys := yt ca) (nw := zw_nest) (As := [.int a1, .int 0, .int 12]) (rest := []) ⟨hx, hb, hml, hown, hts⟩ (m_X10_isn l dC dI ca (fun z : Heap => z = H) a1 0 12 h) (cwS 3 hts gX10_many_X10_is rfl rfl rfl (by decide +kernel) ⟨Nat.le_of_ble_eq_true rfl, Nat.le_of_ble_eq_true rfl⟩) rfl hK hN hX zw_nest_ok rfl hl.1 rfl (Nat.le_of_ble_eq_true rfl) dX10_many_9 ⟨Nat.le_of_ble_eq_true rfl, Nat.le_of_ble_eq_true rfl⟩ hS (fun _ h => h.elim) (fun H locs hB1 oq1 hz1 hS => ?_)
  have hH : z_H (dC, dI) vwCl yf ca yd ad (yM 0) H := by rw [hB1]; exact hH
  have hMo : yMo dC dI mo 0 (ad 0) sm H := by rw [hB1]; exact hMo
  refine lv_if_eq (tgt := 23) hx hb dX10_many_12 (by decide) (fun _ => ?_) (fun c9 => absurd c9 (by decide))
  refine lv_aload_n hx hb dX10_many_23 rfl (lv_at hl 0 rfl) ?_
  refine lv_iconst (v := 1) hx hb dX10_many_24 (by decide) ?_
  refine y_cVi (D := (dC, dI)) (cl := vwCl) (tys := yt ca) (nw := zw_nest) (C := RX10) (As := [.int 1]) (rest := []) ⟨hx, hb, hml, hown, hts⟩ (m_X10_refuse l dC dI ca mo H.size ad hI hm 0 sm 1 ) (cwV 1 hts gX10_many_X10_refuse rfl rfl rfl (by decide +kernel) ⟨Nat.le_of_ble_eq_true rfl, Nat.le_of_ble_eq_true rfl⟩) (va_recv hK (y_one hMo) (ci := 10) rfl (q0 := 0) rfl) ⟨rfl, hMo, hH⟩ hK hN hX zw_nest_ok rfl hl.1 rfl (Nat.le_of_ble_eq_true rfl) dX10_many_25 ⟨Nat.le_of_ble_eq_true rfl, Nat.le_of_ble_eq_true rfl⟩ hS (yA_mono (by have b0 := hS.1; omega)) (fun H locs hB1 oq1 hz1 hS => ?_)
  obtain ⟨hMo, hH⟩ := hB1
  refine W.widen (k := 0) (n := 0) (Nat.le_of_ble_eq_true rfl) (Nat.le_of_ble_eq_true rfl) ?_
  exact W.iret (v := 0) hx hb hr (fun t ht hW => ⟨⟨0, (), rfl, rfl, z_to (B := (fun H => yMo dC dI mo 1 (ad 0) sm H ∧ yW dC dI ca ad (yM 0) H)) ht ⟨hMo, hH⟩⟩, hS.F ht⟩) hS.2.2 dX10_many_28
set_option maxHeartbeats 4000000 in
set_option maxRecDepth 100000 in
theorem m_X10_isClosedNow (l : Launch) (dC : Nat → ClassId) (dI : Nat → Nat → Nat) (ca : Nat → ClassId) (mo sz : Nat) (ad : Nat → Nat) (hI : z_I yd ad) (hm : ∀ i, yd.1 i < 200 → ad i ≠ mo) (th : Int32) (sm : Int64) : Met l yX10_isClosedNow wsX10_isClosedNow ({ frames := 2, cells := 7, slots := 49, locals := 45 }) (z_Py (dC, dI) vwCl (yt ca) zw_nest [.ref mo] (fun H => H.size = sz ∧ yMo dC dI mo th (ad 0) sm H ∧ yW dC dI ca ad (yM 0) H)) (z_Qi 1 (fun H => yMo dC dI mo th (ad 0) sm H ∧ yW dC dI ca ad (yM 0) H) (yA mo ad sz)) 7 49 (yA mo ad sz) := by
  refine Met.ofW (cc := cX10_isClosedNow) (maxL := 4) (ret := (some .boolean)) (by decide) rfl ?_
  intro p e s m args below meth c s₁ B9 hml hv
  obtain ⟨rfl, ⟨hz, hMo, hH⟩, hK, hN, hX⟩ := hv
  have hx := B9.exec
  have hb := B9.bytes
  have hr := B9.returns
  have hts := atoms_spec (ws := wsX10_isClosedNow) B9.pre
  have hown : s.vm.findClass RX10 = some m.cls := findClass_of_methodNamed B9.named
  have hlocks := B9.notSynchronized
  have hS : va_S (yA mo ad sz) s.heap s.heap [] := va_S.rf
  have hba : ∀ i, yd.1 i < 200 → ad i < sz := fun i hi => by have b0 := hH.lt hi; omega
  have hbm : mo < sz := by have b0 := va_at.lt hMo; exact hz ▸ b0
  have hAs : ∀ q, s.heap.size ≤ q → (yA mo ad sz) q := fun q h => Or.inr (Or.inr (hz ▸ h))
  have hinX10 : ∀ w ∈ u_ws RX10 TX10 3, w ∈ wsX10_isClosedNow := by decide +kernel
  have hinX9 : ∀ w ∈ u_ws RX9 TX9 24, w ∈ wsX10_isClosedNow := by decide +kernel
  have hl := lv_entry ([.ref mo]) (n := 4) (Nat.le_of_ble_eq_true rfl)
  rw [lg_entry_eq]
  generalize (lg_sl ([.ref mo]) ++ List.replicate (4 - (lg_sl ([.ref mo])).length) Slot.unset).toArray = ls at hl ⊢
  have hl : lv_has ls 4 [(0, .ref mo)] := hl
  refine lv_iconst (v := 0) hx hb dX10_isClosedNow_0 (by decide) ?_
  refine lv_istore_n (lv' := [(1, .int 0), (0, .ref mo)]) hx hb dX10_isClosedNow_1 rfl hl (by decide) rfl (fun ls hl => ?_)
  refine lv_iconst (v := 1) hx hb dX10_isClosedNow_2 (by decide) ?_
  refine lv_istore_n (lv' := [(2, .int 1), (1, .int 0), (0, .ref mo)]) hx hb dX10_isClosedNow_3 rfl hl (by decide) rfl (fun ls hl => ?_)
  refine lv_iload_n hx hb dX10_isClosedNow_4 rfl (lv_at hl 0 rfl) ?_
  refine lv_bipush (v := 7) hx hb dX10_isClosedNow_5 (by decide) ?_
  refine lv_icmp_ge (tgt := 24) hx hb dX10_isClosedNow_7 (by decide) (fun c9 => absurd c9 (by decide)) (fun _ => ?_)
  refine lv_iload_n hx hb dX10_isClosedNow_10 rfl (lv_at hl 1 rfl) ?_
  refine lv_aload_n hx hb dX10_isClosedNow_11 rfl (lv_at hl 2 rfl) ?_
  refine lv_iload_n hx hb dX10_isClosedNow_12 rfl (lv_at hl 0 rfl) ?_
  refine y_cVi (D := (dC, dI)) (cl := vwCl) (tys := yt ca) (nw := zw_nest) (C := RX10) (As := [.int 1]) (rest := [.int 0]) ⟨hx, hb, hml, hown, hts⟩ (m_X10_massNow l dC dI ca mo s.heap.size ad hI hm th sm 1 ⟨by decide, by decide⟩) (cwV 1 hts gX10_isClosedNow_X10_massNow rfl rfl rfl (by decide +kernel) ⟨Nat.le_of_ble_eq_true rfl, Nat.le_of_ble_eq_true rfl⟩) (va_recv hK (y_one hMo) (ci := 10) rfl (q0 := 0) rfl) ⟨rfl, hMo, hH⟩ hK hN hX zw_nest_ok rfl hl.1 rfl (Nat.le_of_ble_eq_true rfl) dX10_isClosedNow_13 ⟨Nat.le_of_ble_eq_true rfl, Nat.le_of_ble_eq_true rfl⟩ hS (yA_mono (by have b0 := hS.1; omega)) (fun H locs hB1 oq1 hz1 hS => ?_)
  obtain ⟨hMo, hH⟩ := hB1
  refine lv_iadd hx hb dX10_isClosedNow_16 ?_
  refine y_num (b := 0) (by decide) ?_
  refine lv_istore_n (lv' := [(1, .int 0), (2, .int 1), (0, .ref mo)]) hx hb dX10_isClosedNow_17 rfl hl (by decide) rfl (fun ls hl => ?_)
  refine lv_iinc (v := 2) (lv' := [(2, .int 2), (1, .int 0), (0, .ref mo)]) hx hb dX10_isClosedNow_18 hl (k := 1) rfl (by decide) (by decide) rfl (fun ls hl => ?_)
  refine lv_goto (tgt := 4) hx hb dX10_isClosedNow_21 (by decide) ?_
  refine lv_iload_n hx hb dX10_isClosedNow_4 rfl (lv_at hl 0 rfl) ?_
  refine lv_bipush (v := 7) hx hb dX10_isClosedNow_5 (by decide) ?_
  refine lv_icmp_ge (tgt := 24) hx hb dX10_isClosedNow_7 (by decide) (fun c9 => absurd c9 (by decide)) (fun _ => ?_)
  refine lv_iload_n hx hb dX10_isClosedNow_10 rfl (lv_at hl 1 rfl) ?_
  refine lv_aload_n hx hb dX10_isClosedNow_11 rfl (lv_at hl 2 rfl) ?_
  refine lv_iload_n hx hb dX10_isClosedNow_12 rfl (lv_at hl 0 rfl) ?_
  refine y_cVi (D := (dC, dI)) (cl := vwCl) (tys := yt ca) (nw := zw_nest) (C := RX10) (As := [.int 2]) (rest := [.int 0]) ⟨hx, hb, hml, hown, hts⟩ (m_X10_massNow l dC dI ca mo H.size ad hI hm th sm 2 ⟨by decide, by decide⟩) (cwV 1 hts gX10_isClosedNow_X10_massNow rfl rfl rfl (by decide +kernel) ⟨Nat.le_of_ble_eq_true rfl, Nat.le_of_ble_eq_true rfl⟩) (va_recv hK (y_one hMo) (ci := 10) rfl (q0 := 0) rfl) ⟨rfl, hMo, hH⟩ hK hN hX zw_nest_ok rfl hl.1 rfl (Nat.le_of_ble_eq_true rfl) dX10_isClosedNow_13 ⟨Nat.le_of_ble_eq_true rfl, Nat.le_of_ble_eq_true rfl⟩ hS (yA_mono (by have b0 := hS.1; omega)) (fun H locs hB1 oq1 hz1 hS => ?_)
  obtain ⟨hMo, hH⟩ := hB1
  refine lv_iadd hx hb dX10_isClosedNow_16 ?_
  refine y_num (b := 0) (by decide) ?_
  refine lv_istore_n (lv' := [(1, .int 0), (2, .int 2), (0, .ref mo)]) hx hb dX10_isClosedNow_17 rfl hl (by decide) rfl (fun ls hl => ?_)
  refine lv_iinc (v := 3) (lv' := [(2, .int 3), (1, .int 0), (0, .ref mo)]) hx hb dX10_isClosedNow_18 hl (k := 1) rfl (by decide) (by decide) rfl (fun ls hl => ?_)
  refine lv_goto (tgt := 4) hx hb dX10_isClosedNow_21 (by decide) ?_
  refine lv_iload_n hx hb dX10_isClosedNow_4 rfl (lv_at hl 0 rfl) ?_
  refine lv_bipush (v := 7) hx hb dX10_isClosedNow_5 (by decide) ?_
  refine lv_icmp_ge (tgt := 24) hx hb dX10_isClosedNow_7 (by decide) (fun c9 => absurd c9 (by decide)) (fun _ => ?_)
  refine lv_iload_n hx hb dX10_isClosedNow_10 rfl (lv_at hl 1 rfl) ?_
  refine lv_aload_n hx hb dX10_isClosedNow_11 rfl (lv_at hl 2 rfl) ?_
  refine lv_iload_n hx hb dX10_isClosedNow_12 rfl (lv_at hl 0 rfl) ?_
  refine y_cVi (D := (dC, dI)) (cl := vwCl) (tys := yt ca) (nw := zw_nest) (C := RX10) (As := [.int 3]) (rest := [.int 0]) ⟨hx, hb, hml, hown, hts⟩ (m_X10_massNow l dC dI ca mo H.size ad hI hm th sm 3 ⟨by decide, by decide⟩) (cwV 1 hts gX10_isClosedNow_X10_massNow rfl rfl rfl (by decide +kernel) ⟨Nat.le_of_ble_eq_true rfl, Nat.le_of_ble_eq_true rfl⟩) (va_recv hK (y_one hMo) (ci := 10) rfl (q0 := 0) rfl) ⟨rfl, hMo, hH⟩ hK hN hX zw_nest_ok rfl hl.1 rfl (Nat.le_of_ble_eq_true rfl) dX10_isClosedNow_13 ⟨Nat.le_of_ble_eq_true rfl, Nat.le_of_ble_eq_true rfl⟩ hS (yA_mono (by have b0 := hS.1; omega)) (fun H locs hB1 oq1 hz1 hS => ?_)
  obtain ⟨hMo, hH⟩ := hB1
  refine lv_iadd hx hb dX10_isClosedNow_16 ?_
  refine y_num (b := 0) (by decide) ?_
  refine lv_istore_n (lv' := [(1, .int 0), (2, .int 3), (0, .ref mo)]) hx hb dX10_isClosedNow_17 rfl hl (by decide) rfl (fun ls hl => ?_)
  refine lv_iinc (v := 4) (lv' := [(2, .int 4), (1, .int 0), (0, .ref mo)]) hx hb dX10_isClosedNow_18 hl (k := 1) rfl (by decide) (by decide) rfl (fun ls hl => ?_)
  refine lv_goto (tgt := 4) hx hb dX10_isClosedNow_21 (by decide) ?_
  refine lv_iload_n hx hb dX10_isClosedNow_4 rfl (lv_at hl 0 rfl) ?_
  refine lv_bipush (v := 7) hx hb dX10_isClosedNow_5 (by decide) ?_
  refine lv_icmp_ge (tgt := 24) hx hb dX10_isClosedNow_7 (by decide) (fun c9 => absurd c9 (by decide)) (fun _ => ?_)
  refine lv_iload_n hx hb dX10_isClosedNow_10 rfl (lv_at hl 1 rfl) ?_
  refine lv_aload_n hx hb dX10_isClosedNow_11 rfl (lv_at hl 2 rfl) ?_
  refine lv_iload_n hx hb dX10_isClosedNow_12 rfl (lv_at hl 0 rfl) ?_
  refine y_cVi (D := (dC, dI)) (cl := vwCl) (tys := yt ca) (nw := zw_nest) (C := RX10) (As := [.int 4]) (rest := [.int 0]) ⟨hx, hb, hml, hown, hts⟩ (m_X10_massNow l dC dI ca mo H.size ad hI hm th sm 4 ⟨by decide, by decide⟩) (cwV 1 hts gX10_isClosedNow_X10_massNow rfl rfl rfl (by decide +kernel) ⟨Nat.le_of_ble_eq_true rfl, Nat.le_of_ble_eq_true rfl⟩) (va_recv hK (y_one hMo) (ci := 10) rfl (q0 := 0) rfl) ⟨rfl, hMo, hH⟩ hK hN hX zw_nest_ok rfl hl.1 rfl (Nat.le_of_ble_eq_true rfl) dX10_isClosedNow_13 ⟨Nat.le_of_ble_eq_true rfl, Nat.le_of_ble_eq_true rfl⟩ hS (yA_mono (by have b0 := hS.1; omega)) (fun H locs hB1 oq1 hz1 hS => ?_)
  obtain ⟨hMo, hH⟩ := hB1
  refine lv_iadd hx hb dX10_isClosedNow_16 ?_
  refine y_num (b := 0) (by decide) ?_
  refine lv_istore_n (lv' := [(1, .int 0), (2, .int 4), (0, .ref mo)]) hx hb dX10_isClosedNow_17 rfl hl (by decide) rfl (fun ls hl => ?_)
  refine lv_iinc (v := 5) (lv' := [(2, .int 5), (1, .int 0), (0, .ref mo)]) hx hb dX10_isClosedNow_18 hl (k := 1) rfl (by decide) (by decide) rfl (fun ls hl => ?_)
  refine lv_goto (tgt := 4) hx hb dX10_isClosedNow_21 (by decide) ?_
  refine lv_iload_n hx hb dX10_isClosedNow_4 rfl (lv_at hl 0 rfl) ?_
  refine lv_bipush (v := 7) hx hb dX10_isClosedNow_5 (by decide) ?_
  refine lv_icmp_ge (tgt := 24) hx hb dX10_isClosedNow_7 (by decide) (fun c9 => absurd c9 (by decide)) (fun _ => ?_)
  refine lv_iload_n hx hb dX10_isClosedNow_10 rfl (lv_at hl 1 rfl) ?_
  refine lv_aload_n hx hb dX10_isClosedNow_11 rfl (lv_at hl 2 rfl) ?_
  refine lv_iload_n hx hb dX10_isClosedNow_12 rfl (lv_at hl 0 rfl) ?_
  refine y_cVi (D := (dC, dI)) (cl := vwCl) (tys := yt ca) (nw := zw_nest) (C := RX10) (As := [.int 5]) (rest := [.int 0]) ⟨hx, hb, hml, hown, hts⟩ (m_X10_massNow l dC dI ca mo H.size ad hI hm th sm 5 ⟨by decide, by decide⟩) (cwV 1 hts gX10_isClosedNow_X10_massNow rfl rfl rfl (by decide +kernel) ⟨Nat.le_of_ble_eq_true rfl, Nat.le_of_ble_eq_true rfl⟩) (va_recv hK (y_one hMo) (ci := 10) rfl (q0 := 0) rfl) ⟨rfl, hMo, hH⟩ hK hN hX zw_nest_ok rfl hl.1 rfl (Nat.le_of_ble_eq_true rfl) dX10_isClosedNow_13 ⟨Nat.le_of_ble_eq_true rfl, Nat.le_of_ble_eq_true rfl⟩ hS (yA_mono (by have b0 := hS.1; omega)) (fun H locs hB1 oq1 hz1 hS => ?_)
  obtain ⟨hMo, hH⟩ := hB1
  refine lv_iadd hx hb dX10_isClosedNow_16 ?_
  refine y_num (b := 0) (by decide) ?_
  refine lv_istore_n (lv' := [(1, .int 0), (2, .int 5), (0, .ref mo)]) hx hb dX10_isClosedNow_17 rfl hl (by decide) rfl (fun ls hl => ?_)
  refine lv_iinc (v := 6) (lv' := [(2, .int 6), (1, .int 0), (0, .ref mo)]) hx hb dX10_isClosedNow_18 hl (k := 1) rfl (by decide) (by decide) rfl (fun ls hl => ?_)
  refine lv_goto (tgt := 4) hx hb dX10_isClosedNow_21 (by decide) ?_
  refine lv_iload_n hx hb dX10_isClosedNow_4 rfl (lv_at hl 0 rfl) ?_
  refine lv_bipush (v := 7) hx hb dX10_isClosedNow_5 (by decide) ?_
  refine lv_icmp_ge (tgt := 24) hx hb dX10_isClosedNow_7 (by decide) (fun c9 => absurd c9 (by decide)) (fun _ => ?_)
  refine lv_iload_n hx hb dX10_isClosedNow_10 rfl (lv_at hl 1 rfl) ?_
  refine lv_aload_n hx hb dX10_isClosedNow_11 rfl (lv_at hl 2 rfl) ?_
  refine lv_iload_n hx hb dX10_isClosedNow_12 rfl (lv_at hl 0 rfl) ?_
  refine y_cVi (D := (dC, dI)) (cl := vwCl) (tys := yt ca) (nw := zw_nest) (C := RX10) (As := [.int 6]) (rest := [.int 0]) ⟨hx, hb, hml, hown, hts⟩ (m_X10_massNow l dC dI ca mo H.size ad hI hm th sm 6 ⟨by decide, by decide⟩) (cwV 1 hts gX10_isClosedNow_X10_massNow rfl rfl rfl (by decide +kernel) ⟨Nat.le_of_ble_eq_true rfl, Nat.le_of_ble_eq_true rfl⟩) (va_recv hK (y_one hMo) (ci := 10) rfl (q0 := 0) rfl) ⟨rfl, hMo, hH⟩ hK hN hX zw_nest_ok rfl hl.1 rfl (Nat.le_of_ble_eq_true rfl) dX10_isClosedNow_13 ⟨Nat.le_of_ble_eq_true rfl, Nat.le_of_ble_eq_true rfl⟩ hS (yA_mono (by have b0 := hS.1; omega)) (fun H locs hB1 oq1 hz1 hS => ?_)
  obtain ⟨hMo, hH⟩ := hB1
  refine lv_iadd hx hb dX10_isClosedNow_16 ?_
  refine y_num (b := 0) (by decide) ?_
  refine lv_istore_n (lv' := [(1, .int 0), (2, .int 6), (0, .ref mo)]) hx hb dX10_isClosedNow_17 rfl hl (by decide) rfl (fun ls hl => ?_)
  refine lv_iinc (v := 7) (lv' := [(2, .int 7), (1, .int 0), (0, .ref mo)]) hx hb dX10_isClosedNow_18 hl (k := 1) rfl (by decide) (by decide) rfl (fun ls hl => ?_)
  refine lv_goto (tgt := 4) hx hb dX10_isClosedNow_21 (by decide) ?_
  refine lv_iload_n hx hb dX10_isClosedNow_4 rfl (lv_at hl 0 rfl) ?_
  refine lv_bipush (v := 7) hx hb dX10_isClosedNow_5 (by decide) ?_
  refine lv_icmp_ge (tgt := 24) hx hb dX10_isClosedNow_7 (by decide) (fun _ => ?_) (fun c9 => absurd c9 (by decide))
  refine lv_iload_n hx hb dX10_isClosedNow_24 rfl (lv_at hl 1 rfl) ?_
  refine lv_aload_n hx hb dX10_isClosedNow_25 rfl (lv_at hl 2 rfl) ?_
  refine lv_iconst (v := 0) hx hb dX10_isClosedNow_26 (by decide) ?_
  refine y_cVi (D := (dC, dI)) (cl := vwCl) (tys := yt ca) (nw := zw_nest) (C := RX10) (As := [.int 0]) (rest := [.int 0]) ⟨hx, hb, hml, hown, hts⟩ (m_X10_massNow l dC dI ca mo H.size ad hI hm th sm 0 ⟨by decide, by decide⟩) (cwV 1 hts gX10_isClosedNow_X10_massNow rfl rfl rfl (by decide +kernel) ⟨Nat.le_of_ble_eq_true rfl, Nat.le_of_ble_eq_true rfl⟩) (va_recv hK (y_one hMo) (ci := 10) rfl (q0 := 0) rfl) ⟨rfl, hMo, hH⟩ hK hN hX zw_nest_ok rfl hl.1 rfl (Nat.le_of_ble_eq_true rfl) dX10_isClosedNow_27 ⟨Nat.le_of_ble_eq_true rfl, Nat.le_of_ble_eq_true rfl⟩ hS (yA_mono (by have b0 := hS.1; omega)) (fun H locs hB1 oq1 hz1 hS => ?_)
  obtain ⟨hMo, hH⟩ := hB1
  refine lv_icmp_ne (tgt := 37) hx hb dX10_isClosedNow_30 (by decide) (fun c9 => absurd c9 (by decide)) (fun _ => ?_)
  refine lv_iconst (v := 1) hx hb dX10_isClosedNow_33 (by decide) ?_
  refine lv_goto (tgt := 38) hx hb dX10_isClosedNow_34 (by decide) ?_
  refine lv_istore_n (lv' := [(2, .int 1), (1, .int 0), (0, .ref mo)]) hx hb dX10_isClosedNow_38 rfl hl (by decide) rfl (fun ls hl => ?_)
  refine lv_iconst (v := 2) hx hb dX10_isClosedNow_39 (by decide) ?_
  refine lv_istore_n (lv' := [(3, .int 2), (2, .int 1), (1, .int 0), (0, .ref mo)]) hx hb dX10_isClosedNow_40 rfl hl (by decide) rfl (fun ls hl => ?_)
  refine lv_iload_n hx hb dX10_isClosedNow_41 rfl (lv_at hl 0 rfl) ?_
  refine lv_iconst (v := 3) hx hb dX10_isClosedNow_42 (by decide) ?_
  refine lv_icmp_gt (tgt := 110) hx hb dX10_isClosedNow_43 (by decide) (fun c9 => absurd c9 (by decide)) (fun _ => ?_)
  refine lv_iload_n hx hb dX10_isClosedNow_46 rfl (lv_at hl 1 rfl) ?_
  refine lv_aload_n hx hb dX10_isClosedNow_47 rfl (lv_at hl 3 rfl) ?_
  refine yo_get (D := (dC, dI)) (cl := vwCl) (C := RX10) (T := TX10) (N := 3) (ci := 10) (v := .ref (ad 0)) hx hb hts hinX10 hown hK hMo rfl 1 (by decide) (hts (.fieldLink RX10 10 "SteamfieldModel" "field" "LSteamfieldModel$Field;") (by decide +kernel)) (fun _ h9 => h9) rfl dX10_isClosedNow_48 ?_
  refine z_grN (D := (dC, dI)) (cl := vwCl) (C := RX9) (T := TX9) (N := 24) (ci := 9) (k := 9) hx hb hts hinX9 hown hK hH (i := 0) yk_0 (by decide) rfl (by decide) rfl yr_9 (hN (.fieldLinkNest RX10 44 "SteamfieldModel$Field" "told" "[I" "SteamfieldModel") (by decide +kernel)) (fun _ h9 => h9) dX10_isClosedNow_51 ?_
  refine lv_iload_n hx hb dX10_isClosedNow_54 rfl (lv_at hl 0 rfl) ?_
  refine z_al (t0 := 0) (D := (dC, dI)) (cl := vwCl) (tys := yt ca) hx hb hK hH (i := 35) yk_35 rfl (show vp_in 2 4 from zx (n := 2) rfl (by decide) (by decide)) dX10_isClosedNow_55 ?_
  refine y_num (b := 0) rfl ?_
  refine lv_aload_n hx hb dX10_isClosedNow_56 rfl (lv_at hl 3 rfl) ?_
  refine yo_get (D := (dC, dI)) (cl := vwCl) (C := RX10) (T := TX10) (N := 3) (ci := 10) (v := .ref (ad 0)) hx hb hts hinX10 hown hK hMo rfl 1 (by decide) (hts (.fieldLink RX10 10 "SteamfieldModel" "field" "LSteamfieldModel$Field;") (by decide +kernel)) (fun _ h9 => h9) rfl dX10_isClosedNow_57 ?_
  refine lv_iload_n hx hb dX10_isClosedNow_60 rfl (lv_at hl 0 rfl) ?_
  refine y_cVi (D := (dC, dI)) (cl := vwCl) (tys := yt ca) (nw := zw_nest) (C := RX9) (As := [.int 2]) (rest := [.int 0, .int 1]) ⟨hx, hb, hml, hown, hts⟩ (m_X9_sum l dC dI ca ad hI 0 (by decide) 2 ) (cwV 1 hts gX10_isClosedNow_X9_sum rfl rfl rfl (by decide +kernel) ⟨Nat.le_of_ble_eq_true rfl, Nat.le_of_ble_eq_true rfl⟩) (z_recv (ci := 9) (i := 0) hK hH yk_0 (by decide) rfl) hH hK hN hX zw_nest_ok rfl hl.1 rfl (Nat.le_of_ble_eq_true rfl) dX10_isClosedNow_61 ⟨Nat.le_of_ble_eq_true rfl, Nat.le_of_ble_eq_true rfl⟩ hS (fun _ h => Or.inr (Or.inl h)) (fun H locs hB1 oq1 hz1 hS => ?_)
  have hMo := va_at.kept hMo (oq1 _ (va_at.lt hMo) (fun ⟨j, hj, e9⟩ => hm j hj e9))
  have hH : z_H (dC, dI) vwCl yf ca yd ad (yM 0) H := hB1
  refine lv_aload_n hx hb dX10_isClosedNow_64 rfl (lv_at hl 3 rfl) ?_
  refine yo_get (D := (dC, dI)) (cl := vwCl) (C := RX10) (T := TX10) (N := 3) (ci := 10) (v := .ref (ad 0)) hx hb hts hinX10 hown hK hMo rfl 1 (by decide) (hts (.fieldLink RX10 10 "SteamfieldModel" "field" "LSteamfieldModel$Field;") (by decide +kernel)) (fun _ h9 => h9) rfl dX10_isClosedNow_65 ?_
  refine z_grN (D := (dC, dI)) (cl := vwCl) (C := RX9) (T := TX9) (N := 24) (ci := 9) (k := 8) hx hb hts hinX9 hown hK hH (i := 0) yk_0 (by decide) rfl (by decide) rfl yr_8 (hN (.fieldLinkNest RX10 100 "SteamfieldModel$Field" "pond" "[I" "SteamfieldModel") (by decide +kernel)) (fun _ h9 => h9) dX10_isClosedNow_68 ?_
  refine lv_iload_n hx hb dX10_isClosedNow_71 rfl (lv_at hl 0 rfl) ?_
  refine z_al (t0 := 0) (D := (dC, dI)) (cl := vwCl) (tys := yt ca) hx hb hK hH (i := 34) yk_34 rfl (show vp_in 2 6 from zx (n := 2) rfl (by decide) (by decide)) dX10_isClosedNow_72 ?_
  refine y_num (b := 0) rfl ?_
  refine lv_iadd hx hb dX10_isClosedNow_73 ?_
  refine y_num (b := 0) (by decide) ?_
  refine lv_aload_n hx hb dX10_isClosedNow_74 rfl (lv_at hl 3 rfl) ?_
  refine yo_get (D := (dC, dI)) (cl := vwCl) (C := RX10) (T := TX10) (N := 3) (ci := 10) (v := .ref (ad 0)) hx hb hts hinX10 hown hK hMo rfl 1 (by decide) (hts (.fieldLink RX10 10 "SteamfieldModel" "field" "LSteamfieldModel$Field;") (by decide +kernel)) (fun _ h9 => h9) rfl dX10_isClosedNow_75 ?_
  refine z_grN (D := (dC, dI)) (cl := vwCl) (C := RX9) (T := TX9) (N := 24) (ci := 9) (k := 10) hx hb hts hinX9 hown hK hH (i := 0) yk_0 (by decide) rfl (by decide) rfl yr_10 (hN (.fieldLinkNest RX10 115 "SteamfieldModel$Field" "spilled" "[I" "SteamfieldModel") (by decide +kernel)) (fun _ h9 => h9) dX10_isClosedNow_78 ?_
  refine lv_iload_n hx hb dX10_isClosedNow_81 rfl (lv_at hl 0 rfl) ?_
  refine z_al (t0 := 0) (D := (dC, dI)) (cl := vwCl) (tys := yt ca) hx hb hK hH (i := 36) yk_36 rfl (show vp_in 2 4 from zx (n := 2) rfl (by decide) (by decide)) dX10_isClosedNow_82 ?_
  refine y_num (b := 0) rfl ?_
  refine lv_iadd hx hb dX10_isClosedNow_83 ?_
  refine y_num (b := 0) (by decide) ?_
  refine lv_aload_n hx hb dX10_isClosedNow_84 rfl (lv_at hl 3 rfl) ?_
  refine yo_get (D := (dC, dI)) (cl := vwCl) (C := RX10) (T := TX10) (N := 3) (ci := 10) (v := .ref (ad 0)) hx hb hts hinX10 hown hK hMo rfl 1 (by decide) (hts (.fieldLink RX10 10 "SteamfieldModel" "field" "LSteamfieldModel$Field;") (by decide +kernel)) (fun _ h9 => h9) rfl dX10_isClosedNow_85 ?_
  refine z_grN (D := (dC, dI)) (cl := vwCl) (C := RX9) (T := TX9) (N := 24) (ci := 9) (k := 11) hx hb hts hinX9 hown hK hH (i := 0) yk_0 (by decide) rfl (by decide) rfl yr_11 (hN (.fieldLinkNest RX10 118 "SteamfieldModel$Field" "gone" "[I" "SteamfieldModel") (by decide +kernel)) (fun _ h9 => h9) dX10_isClosedNow_88 ?_
  refine lv_iload_n hx hb dX10_isClosedNow_91 rfl (lv_at hl 0 rfl) ?_
  refine z_al (t0 := 0) (D := (dC, dI)) (cl := vwCl) (tys := yt ca) hx hb hK hH (i := 37) yk_37 rfl (show vp_in 2 4 from zx (n := 2) rfl (by decide) (by decide)) dX10_isClosedNow_92 ?_
  refine y_num (b := 0) rfl ?_
  refine lv_iadd hx hb dX10_isClosedNow_93 ?_
  refine y_num (b := 0) (by decide) ?_
  refine lv_icmp_ne (tgt := 101) hx hb dX10_isClosedNow_94 (by decide) (fun c9 => absurd c9 (by decide)) (fun _ => ?_)
  refine lv_iconst (v := 1) hx hb dX10_isClosedNow_97 (by decide) ?_
  refine lv_goto (tgt := 102) hx hb dX10_isClosedNow_98 (by decide) ?_
  refine lv_iand hx hb dX10_isClosedNow_102 ?_
  refine y_num (b := 1) (by decide) ?_
  refine lv_istore_n (lv' := [(2, .int 1), (3, .int 2), (1, .int 0), (0, .ref mo)]) hx hb dX10_isClosedNow_103 rfl hl (by decide) rfl (fun ls hl => ?_)
  refine lv_iinc (v := 3) (lv' := [(3, .int 3), (2, .int 1), (1, .int 0), (0, .ref mo)]) hx hb dX10_isClosedNow_104 hl (k := 1) rfl (by decide) (by decide) rfl (fun ls hl => ?_)
  refine lv_goto (tgt := 41) hx hb dX10_isClosedNow_107 (by decide) ?_
  refine lv_iload_n hx hb dX10_isClosedNow_41 rfl (lv_at hl 0 rfl) ?_
  refine lv_iconst (v := 3) hx hb dX10_isClosedNow_42 (by decide) ?_
  refine lv_icmp_gt (tgt := 110) hx hb dX10_isClosedNow_43 (by decide) (fun c9 => absurd c9 (by decide)) (fun _ => ?_)
  refine lv_iload_n hx hb dX10_isClosedNow_46 rfl (lv_at hl 1 rfl) ?_
  refine lv_aload_n hx hb dX10_isClosedNow_47 rfl (lv_at hl 3 rfl) ?_
  refine yo_get (D := (dC, dI)) (cl := vwCl) (C := RX10) (T := TX10) (N := 3) (ci := 10) (v := .ref (ad 0)) hx hb hts hinX10 hown hK hMo rfl 1 (by decide) (hts (.fieldLink RX10 10 "SteamfieldModel" "field" "LSteamfieldModel$Field;") (by decide +kernel)) (fun _ h9 => h9) rfl dX10_isClosedNow_48 ?_
  refine z_grN (D := (dC, dI)) (cl := vwCl) (C := RX9) (T := TX9) (N := 24) (ci := 9) (k := 9) hx hb hts hinX9 hown hK hH (i := 0) yk_0 (by decide) rfl (by decide) rfl yr_9 (hN (.fieldLinkNest RX10 44 "SteamfieldModel$Field" "told" "[I" "SteamfieldModel") (by decide +kernel)) (fun _ h9 => h9) dX10_isClosedNow_51 ?_
  refine lv_iload_n hx hb dX10_isClosedNow_54 rfl (lv_at hl 0 rfl) ?_
  refine z_al (t0 := 0) (D := (dC, dI)) (cl := vwCl) (tys := yt ca) hx hb hK hH (i := 35) yk_35 rfl (show vp_in 3 4 from zx (n := 3) rfl (by decide) (by decide)) dX10_isClosedNow_55 ?_
  refine y_num (b := 0) rfl ?_
  refine lv_aload_n hx hb dX10_isClosedNow_56 rfl (lv_at hl 3 rfl) ?_
  refine yo_get (D := (dC, dI)) (cl := vwCl) (C := RX10) (T := TX10) (N := 3) (ci := 10) (v := .ref (ad 0)) hx hb hts hinX10 hown hK hMo rfl 1 (by decide) (hts (.fieldLink RX10 10 "SteamfieldModel" "field" "LSteamfieldModel$Field;") (by decide +kernel)) (fun _ h9 => h9) rfl dX10_isClosedNow_57 ?_
  refine lv_iload_n hx hb dX10_isClosedNow_60 rfl (lv_at hl 0 rfl) ?_
  refine y_cVi (D := (dC, dI)) (cl := vwCl) (tys := yt ca) (nw := zw_nest) (C := RX9) (As := [.int 3]) (rest := [.int 0, .int 1]) ⟨hx, hb, hml, hown, hts⟩ (m_X9_sum l dC dI ca ad hI 0 (by decide) 3 ) (cwV 1 hts gX10_isClosedNow_X9_sum rfl rfl rfl (by decide +kernel) ⟨Nat.le_of_ble_eq_true rfl, Nat.le_of_ble_eq_true rfl⟩) (z_recv (ci := 9) (i := 0) hK hH yk_0 (by decide) rfl) hH hK hN hX zw_nest_ok rfl hl.1 rfl (Nat.le_of_ble_eq_true rfl) dX10_isClosedNow_61 ⟨Nat.le_of_ble_eq_true rfl, Nat.le_of_ble_eq_true rfl⟩ hS (fun _ h => Or.inr (Or.inl h)) (fun H locs hB1 oq1 hz1 hS => ?_)
  have hMo := va_at.kept hMo (oq1 _ (va_at.lt hMo) (fun ⟨j, hj, e9⟩ => hm j hj e9))
  have hH : z_H (dC, dI) vwCl yf ca yd ad (yM 0) H := hB1
  refine lv_aload_n hx hb dX10_isClosedNow_64 rfl (lv_at hl 3 rfl) ?_
  refine yo_get (D := (dC, dI)) (cl := vwCl) (C := RX10) (T := TX10) (N := 3) (ci := 10) (v := .ref (ad 0)) hx hb hts hinX10 hown hK hMo rfl 1 (by decide) (hts (.fieldLink RX10 10 "SteamfieldModel" "field" "LSteamfieldModel$Field;") (by decide +kernel)) (fun _ h9 => h9) rfl dX10_isClosedNow_65 ?_
  refine z_grN (D := (dC, dI)) (cl := vwCl) (C := RX9) (T := TX9) (N := 24) (ci := 9) (k := 8) hx hb hts hinX9 hown hK hH (i := 0) yk_0 (by decide) rfl (by decide) rfl yr_8 (hN (.fieldLinkNest RX10 100 "SteamfieldModel$Field" "pond" "[I" "SteamfieldModel") (by decide +kernel)) (fun _ h9 => h9) dX10_isClosedNow_68 ?_
  refine lv_iload_n hx hb dX10_isClosedNow_71 rfl (lv_at hl 0 rfl) ?_
  refine z_al (t0 := 0) (D := (dC, dI)) (cl := vwCl) (tys := yt ca) hx hb hK hH (i := 34) yk_34 rfl (show vp_in 3 6 from zx (n := 3) rfl (by decide) (by decide)) dX10_isClosedNow_72 ?_
  refine y_num (b := 0) rfl ?_
  refine lv_iadd hx hb dX10_isClosedNow_73 ?_
  refine y_num (b := 0) (by decide) ?_
  refine lv_aload_n hx hb dX10_isClosedNow_74 rfl (lv_at hl 3 rfl) ?_
  refine yo_get (D := (dC, dI)) (cl := vwCl) (C := RX10) (T := TX10) (N := 3) (ci := 10) (v := .ref (ad 0)) hx hb hts hinX10 hown hK hMo rfl 1 (by decide) (hts (.fieldLink RX10 10 "SteamfieldModel" "field" "LSteamfieldModel$Field;") (by decide +kernel)) (fun _ h9 => h9) rfl dX10_isClosedNow_75 ?_
  refine z_grN (D := (dC, dI)) (cl := vwCl) (C := RX9) (T := TX9) (N := 24) (ci := 9) (k := 10) hx hb hts hinX9 hown hK hH (i := 0) yk_0 (by decide) rfl (by decide) rfl yr_10 (hN (.fieldLinkNest RX10 115 "SteamfieldModel$Field" "spilled" "[I" "SteamfieldModel") (by decide +kernel)) (fun _ h9 => h9) dX10_isClosedNow_78 ?_
  refine lv_iload_n hx hb dX10_isClosedNow_81 rfl (lv_at hl 0 rfl) ?_
  refine z_al (t0 := 0) (D := (dC, dI)) (cl := vwCl) (tys := yt ca) hx hb hK hH (i := 36) yk_36 rfl (show vp_in 3 4 from zx (n := 3) rfl (by decide) (by decide)) dX10_isClosedNow_82 ?_
  refine y_num (b := 0) rfl ?_
  refine lv_iadd hx hb dX10_isClosedNow_83 ?_
  refine y_num (b := 0) (by decide) ?_
  refine lv_aload_n hx hb dX10_isClosedNow_84 rfl (lv_at hl 3 rfl) ?_
  refine yo_get (D := (dC, dI)) (cl := vwCl) (C := RX10) (T := TX10) (N := 3) (ci := 10) (v := .ref (ad 0)) hx hb hts hinX10 hown hK hMo rfl 1 (by decide) (hts (.fieldLink RX10 10 "SteamfieldModel" "field" "LSteamfieldModel$Field;") (by decide +kernel)) (fun _ h9 => h9) rfl dX10_isClosedNow_85 ?_
  refine z_grN (D := (dC, dI)) (cl := vwCl) (C := RX9) (T := TX9) (N := 24) (ci := 9) (k := 11) hx hb hts hinX9 hown hK hH (i := 0) yk_0 (by decide) rfl (by decide) rfl yr_11 (hN (.fieldLinkNest RX10 118 "SteamfieldModel$Field" "gone" "[I" "SteamfieldModel") (by decide +kernel)) (fun _ h9 => h9) dX10_isClosedNow_88 ?_
  refine lv_iload_n hx hb dX10_isClosedNow_91 rfl (lv_at hl 0 rfl) ?_
  refine z_al (t0 := 0) (D := (dC, dI)) (cl := vwCl) (tys := yt ca) hx hb hK hH (i := 37) yk_37 rfl (show vp_in 3 4 from zx (n := 3) rfl (by decide) (by decide)) dX10_isClosedNow_92 ?_
  refine y_num (b := 0) rfl ?_
  refine lv_iadd hx hb dX10_isClosedNow_93 ?_
  refine y_num (b := 0) (by decide) ?_
  refine lv_icmp_ne (tgt := 101) hx hb dX10_isClosedNow_94 (by decide) (fun c9 => absurd c9 (by decide)) (fun _ => ?_)
  refine lv_iconst (v := 1) hx hb dX10_isClosedNow_97 (by decide) ?_
  refine lv_goto (tgt := 102) hx hb dX10_isClosedNow_98 (by decide) ?_
  refine lv_iand hx hb dX10_isClosedNow_102 ?_
  refine y_num (b := 1) (by decide) ?_
  refine lv_istore_n (lv' := [(2, .int 1), (3, .int 3), (1, .int 0), (0, .ref mo)]) hx hb dX10_isClosedNow_103 rfl hl (by decide) rfl (fun ls hl => ?_)
  refine lv_iinc (v := 4) (lv' := [(3, .int 4), (2, .int 1), (1, .int 0), (0, .ref mo)]) hx hb dX10_isClosedNow_104 hl (k := 1) rfl (by decide) (by decide) rfl (fun ls hl => ?_)
  refine lv_goto (tgt := 41) hx hb dX10_isClosedNow_107 (by decide) ?_
  refine lv_iload_n hx hb dX10_isClosedNow_41 rfl (lv_at hl 0 rfl) ?_
  refine lv_iconst (v := 3) hx hb dX10_isClosedNow_42 (by decide) ?_
  refine lv_icmp_gt (tgt := 110) hx hb dX10_isClosedNow_43 (by decide) (fun _ => ?_) (fun c9 => absurd c9 (by decide))
  refine lv_iload_n hx hb dX10_isClosedNow_110 rfl (lv_at hl 1 rfl) ?_
  refine W.widen (k := 7) (n := 49) (Nat.le_of_ble_eq_true rfl) (Nat.le_of_ble_eq_true rfl) ?_
  exact W.zret (v := 1) (ty := .boolean) hx hb hr (by decide) (fun t ht hW => ⟨⟨1, (), rfl, rfl, z_to (B := (fun H => yMo dC dI mo th (ad 0) sm H ∧ yW dC dI ca ad (yM 0) H)) ht ⟨hMo, hH⟩⟩, hS.F ht⟩) hS.2.2 dX10_isClosedNow_111
set_option maxHeartbeats 4000000 in
set_option maxRecDepth 100000 in
theorem m_X10_isClosed (l : Launch) (dC : Nat → ClassId) (dI : Nat → Nat → Nat) (ca : Nat → ClassId) (mo sz : Nat) (ad : Nat → Nat) (hI : z_I yd ad) (hm : ∀ i, yd.1 i < 200 → ad i ≠ mo) (th : Int32) (sm : Int64) : Met l yX10_isClosed wsX10_isClosed ({ frames := 3, cells := 7, slots := 49, locals := 68 }) (z_Py (dC, dI) vwCl (yt ca) zw_nest [.ref mo] (fun H => H.size = sz ∧ yMo dC dI mo th (ad 0) sm H ∧ yW dC dI ca ad (yM 0) H)) (z_Qi 1 (fun H => yMo dC dI mo 0 (ad 0) sm H ∧ yW dC dI ca ad (yM 0) H) (yA mo ad sz)) 7 49 (yA mo ad sz) := by
  refine Met.ofW (cc := cX10_isClosed) (maxL := 1) (ret := (some .boolean)) (by decide) rfl ?_
  intro p e s m args below meth c s₁ B9 hml hv
  obtain ⟨rfl, ⟨hz, hMo, hH⟩, hK, hN, hX⟩ := hv
  have hx := B9.exec
  have hb := B9.bytes
  have hr := B9.returns
  have hts := atoms_spec (ws := wsX10_isClosed) B9.pre
  have hown : s.vm.findClass RX10 = some m.cls := findClass_of_methodNamed B9.named
  have hlocks := B9.notSynchronized
  have hS : va_S (yA mo ad sz) s.heap s.heap [] := va_S.rf
  have hba : ∀ i, yd.1 i < 200 → ad i < sz := fun i hi => by have b0 := hH.lt hi; omega
  have hbm : mo < sz := by have b0 := va_at.lt hMo; exact hz ▸ b0
  have hAs : ∀ q, s.heap.size ≤ q → (yA mo ad sz) q := fun q h => Or.inr (Or.inr (hz ▸ h))
  have hinX10 : ∀ w ∈ u_ws RX10 TX10 3, w ∈ wsX10_isClosed := by decide +kernel
  have hl := lv_entry ([.ref mo]) (n := 1) (Nat.le_of_ble_eq_true rfl)
  rw [lg_entry_eq]
  generalize (lg_sl ([.ref mo]) ++ List.replicate (1 - (lg_sl ([.ref mo])).length) Slot.unset).toArray = ls at hl ⊢
  have hl : lv_has ls 1 [(0, .ref mo)] := hl
  refine lv_aload_n hx hb dX10_isClosed_0 rfl (lv_at hl 0 rfl) ?_
  refine lv_iconst (v := 0) hx hb dX10_isClosed_1 (by decide) ?_
  refine yo_put (D := (dC, dI)) (cl := vwCl) (C := RX10) (T := TX10) (N := 3) (ci := 10) (ty := .int) hx hb hts hinX10 tyX10 tyX10_ok nmX10 hown hK hMo hS (Or.inl rfl) rfl 0 (by decide) (hts (.fieldLink RX10 16 "SteamfieldModel" "thrown" "I") (by decide +kernel)) (fun _ h9 => h9) rfl (by decide +kernel) rfl rfl (show 0 < 3 by decide) dX10_isClosed_2 (fun H locs hMo z9 oq hS => ?_)
  have hMo : yMo dC dI mo 0 (ad 0) sm H := hMo
  have hH := hH.kept (fun i hi => oq _ (hm i hi))
  refine lv_aload_n hx hb dX10_isClosed_5 rfl (lv_at hl 0 rfl) ?_
  refine y_cVi (D := (dC, dI)) (cl := vwCl) (tys := yt ca) (nw := zw_nest) (C := RX10) (As := []) (rest := []) ⟨hx, hb, hml, hown, hts⟩ (m_X10_isClosedNow l dC dI ca mo H.size ad hI hm 0 sm  ) (cwV 0 hts gX10_isClosed_X10_isClosedNow rfl rfl rfl (by decide +kernel) ⟨Nat.le_of_ble_eq_true rfl, Nat.le_of_ble_eq_true rfl⟩) (va_recv hK (y_one hMo) (ci := 10) rfl (q0 := 0) rfl) ⟨rfl, hMo, hH⟩ hK hN hX zw_nest_ok rfl hl.1 rfl (Nat.le_of_ble_eq_true rfl) dX10_isClosed_6 ⟨Nat.le_of_ble_eq_true rfl, Nat.le_of_ble_eq_true rfl⟩ hS (yA_mono (by have b0 := hS.1; omega)) (fun H locs hB1 oq1 hz1 hS => ?_)
  obtain ⟨hMo, hH⟩ := hB1
  refine W.widen (k := 7) (n := 49) (Nat.le_of_ble_eq_true rfl) (Nat.le_of_ble_eq_true rfl) ?_
  exact W.zret (v := 1) (ty := .boolean) hx hb hr (by decide) (fun t ht hW => ⟨⟨1, (), rfl, rfl, z_to (B := (fun H => yMo dC dI mo 0 (ad 0) sm H ∧ yW dC dI ca ad (yM 0) H)) ht ⟨hMo, hH⟩⟩, hS.F ht⟩) hS.2.2 dX10_isClosed_9
set_option maxHeartbeats 4000000 in
set_option maxRecDepth 100000 in
theorem m_X10_runy (l : Launch) (dC : Nat → ClassId) (dI : Nat → Nat → Nat) (ca : Nat → ClassId) (mo sz : Nat) (ad : Nat → Nat) (hI : z_I yd ad) (hm : ∀ i, yd.1 i < 200 → ad i ≠ mo) (th : Int32) (sm : Int64) (K : Nat) (hk30 : K ≤ 30) (h : z_rg (nI K) 1 30): Met l yX10_run wsX10_run ({ frames := 4, cells := 0, slots := 0, locals := 95 }) (z_Py (dC, dI) vwCl (yt ca) zw_nest [.ref mo, .int (nI K)] (fun H => H.size = sz ∧ yMo dC dI mo th (ad 0) sm H ∧ yW dC dI ca ad (yM 0) H)) (z_Qi 0 (fun H => yMo dC dI mo 0 (ad 0) sm H) (yA mo ad sz)) 0 0 (yA mo ad sz) := by
  refine Met.ofW (cc := cX10_run) (maxL := 2) (ret := (some .int)) (by decide) rfl ?_
  intro p e s m args below meth c s₁ B9 hml hv
  obtain ⟨rfl, ⟨hz, hMo, hH⟩, hK, hN, hX⟩ := hv
  have hx := B9.exec
  have hb := B9.bytes
  have hr := B9.returns
  have hts := atoms_spec (ws := wsX10_run) B9.pre
  have hown : s.vm.findClass RX10 = some m.cls := findClass_of_methodNamed B9.named
  have hlocks := B9.notSynchronized
  have hS : va_S (yA mo ad sz) s.heap s.heap [] := va_S.rf
  have hba : ∀ i, yd.1 i < 200 → ad i < sz := fun i hi => by have b0 := hH.lt hi; omega
  have hbm : mo < sz := by have b0 := va_at.lt hMo; exact hz ▸ b0
  have hAs : ∀ q, s.heap.size ≤ q → (yA mo ad sz) q := fun q h => Or.inr (Or.inr (hz ▸ h))
  have hinX10 : ∀ w ∈ u_ws RX10 TX10 3, w ∈ wsX10_run := by decide +kernel
  have hl := lv_entry ([.ref mo, .int (nI K)]) (n := 2) (Nat.le_of_ble_eq_true rfl)
  rw [lg_entry_eq]
  generalize (lg_sl ([.ref mo, .int (nI K)]) ++ List.replicate (2 - (lg_sl ([.ref mo, .int (nI K)])).length) Slot.unset).toArray = ls at hl ⊢
  have hl : lv_has ls 2 [(0, .ref mo), (1, .int (nI K))] := hl
  refine lv_aload_n hx hb dX10_run_0 rfl (lv_at hl 0 rfl) ?_
  refine lv_iconst (v := 0) hx hb dX10_run_1 (by decide) ?_
  refine yo_put (D := (dC, dI)) (cl := vwCl) (C := RX10) (T := TX10) (N := 3) (ci := 10) (ty := .int) hx hb hts hinX10 tyX10 tyX10_ok nmX10 hown hK hMo hS (Or.inl rfl) rfl 0 (by decide) (hts (.fieldLink RX10 16 "SteamfieldModel" "thrown" "I") (by decide +kernel)) (fun _ h9 => h9) rfl (by decide +kernel) rfl rfl (show 0 < 3 by decide) dX10_run_2 (fun H locs hMo z9 oq hS => ?_)
  have hMo : yMo dC dI mo 0 (ad 0) sm H := hMo
  have hH := hH.kept (fun i hi => oq _ (hm i hi))
  refine lv_iload_n hx hb dX10_run_5 rfl (lv_at hl 1 rfl) ?_
  refine y_cSi (D := (dC, dI)) (cl := vwCl) (tys := yt ca) (nw := zw_nest) (As := [.int (nI K)]) (rest := []) ⟨hx, hb, hml, hown, hts⟩ (m_X10_areStepsy l dC dI ca (fun z : Heap => z = H) (nI K) h) (cwS 1 hts gX10_run_X10_areSteps rfl rfl rfl (by decide +kernel) ⟨Nat.le_of_ble_eq_true rfl, Nat.le_of_ble_eq_true rfl⟩) rfl hK hN hX zw_nest_ok rfl hl.1 rfl (Nat.le_of_ble_eq_true rfl) dX10_run_6 ⟨Nat.le_of_ble_eq_true rfl, Nat.le_of_ble_eq_true rfl⟩ hS (fun _ h => h.elim) (fun H locs hB1 oq1 hz1 hS => ?_)
  have hH : z_H (dC, dI) vwCl yf ca yd ad (yM 0) H := by rw [hB1]; exact hH
  have hMo : yMo dC dI mo 0 (ad 0) sm H := by rw [hB1]; exact hMo
  refine lv_if_eq (tgt := 23) hx hb dX10_run_9 (by decide) (fun c9 => absurd c9 (by decide)) (fun _ => ?_)
  refine lv_aload_n hx hb dX10_run_12 rfl (lv_at hl 0 rfl) ?_
  refine yo_get (D := (dC, dI)) (cl := vwCl) (C := RX10) (T := TX10) (N := 3) (ci := 10) (v := .ref (ad 0)) hx hb hts hinX10 hown hK hMo rfl 1 (by decide) (hts (.fieldLink RX10 10 "SteamfieldModel" "field" "LSteamfieldModel$Field;") (by decide +kernel)) (fun _ h9 => h9) rfl dX10_run_13 ?_
  refine lv_iload_n hx hb dX10_run_16 rfl (lv_at hl 1 rfl) ?_
  refine y_cVi (D := (dC, dI)) (cl := vwCl) (tys := yt ca) (nw := zw_nest) (C := RX9) (As := [.int (nI K)]) (rest := []) ⟨hx, hb, hml, hown, hts⟩ (m_X9_run l dC dI ca ad hI 0 (by decide) K (by omega)) (cwV 1 hts gX10_run_X9_run rfl rfl rfl (by decide +kernel) ⟨Nat.le_of_ble_eq_true rfl, Nat.le_of_ble_eq_true rfl⟩) (z_recv (ci := 9) (i := 0) hK hH yk_0 (by decide) rfl) hH hK hN hX zw_nest_ok rfl hl.1 rfl (Nat.le_of_ble_eq_true rfl) dX10_run_17 ⟨Nat.le_of_ble_eq_true rfl, Nat.le_of_ble_eq_true rfl⟩ hS (fun _ h => Or.inr (Or.inl h)) (fun H locs hB1 oq1 hz1 hS => ?_)
  have hMo := va_at.kept hMo (oq1 _ (va_at.lt hMo) (fun ⟨j, hj, e9⟩ => hm j hj e9))
  have hH : z_H (dC, dI) vwCl yf ca yd ad (yM (0 + K)) H := hB1
  refine lv_goto (tgt := 28) hx hb dX10_run_20 (by decide) ?_
  refine W.widen (k := 0) (n := 0) (Nat.le_of_ble_eq_true rfl) (Nat.le_of_ble_eq_true rfl) ?_
  exact W.iret (v := 0) hx hb hr (fun t ht hW => ⟨⟨0, (), rfl, rfl, z_to (B := (fun H => yMo dC dI mo 0 (ad 0) sm H)) ht hMo⟩, hS.F ht⟩) hS.2.2 dX10_run_28
set_option maxHeartbeats 4000000 in
set_option maxRecDepth 100000 in
theorem m_X10_runn (l : Launch) (dC : Nat → ClassId) (dI : Nat → Nat → Nat) (ca : Nat → ClassId) (mo sz : Nat) (ad : Nat → Nat) (hI : z_I yd ad) (hm : ∀ i, yd.1 i < 200 → ad i ≠ mo) (th : Int32) (sm : Int64) (a1 : Int32) (h : ¬ z_rg a1 1 30): Met l yX10_run wsX10_run ({ frames := 2, cells := 0, slots := 0, locals := 42 }) (z_Py (dC, dI) vwCl (yt ca) zw_nest [.ref mo, .int a1] (fun H => H.size = sz ∧ yMo dC dI mo th (ad 0) sm H ∧ yW dC dI ca ad (yM 0) H)) (z_Qi 0 (fun H => yMo dC dI mo 1 (ad 0) sm H ∧ yW dC dI ca ad (yM 0) H) (yA mo ad sz)) 0 0 (yA mo ad sz) := by
  refine Met.ofW (cc := cX10_run) (maxL := 2) (ret := (some .int)) (by decide) rfl ?_
  intro p e s m args below meth c s₁ B9 hml hv
  obtain ⟨rfl, ⟨hz, hMo, hH⟩, hK, hN, hX⟩ := hv
  have hx := B9.exec
  have hb := B9.bytes
  have hr := B9.returns
  have hts := atoms_spec (ws := wsX10_run) B9.pre
  have hown : s.vm.findClass RX10 = some m.cls := findClass_of_methodNamed B9.named
  have hlocks := B9.notSynchronized
  have hS : va_S (yA mo ad sz) s.heap s.heap [] := va_S.rf
  have hba : ∀ i, yd.1 i < 200 → ad i < sz := fun i hi => by have b0 := hH.lt hi; omega
  have hbm : mo < sz := by have b0 := va_at.lt hMo; exact hz ▸ b0
  have hAs : ∀ q, s.heap.size ≤ q → (yA mo ad sz) q := fun q h => Or.inr (Or.inr (hz ▸ h))
  have hinX10 : ∀ w ∈ u_ws RX10 TX10 3, w ∈ wsX10_run := by decide +kernel
  have hl := lv_entry ([.ref mo, .int a1]) (n := 2) (Nat.le_of_ble_eq_true rfl)
  rw [lg_entry_eq]
  generalize (lg_sl ([.ref mo, .int a1]) ++ List.replicate (2 - (lg_sl ([.ref mo, .int a1])).length) Slot.unset).toArray = ls at hl ⊢
  have hl : lv_has ls 2 [(0, .ref mo), (1, .int a1)] := hl
  refine lv_aload_n hx hb dX10_run_0 rfl (lv_at hl 0 rfl) ?_
  refine lv_iconst (v := 0) hx hb dX10_run_1 (by decide) ?_
  refine yo_put (D := (dC, dI)) (cl := vwCl) (C := RX10) (T := TX10) (N := 3) (ci := 10) (ty := .int) hx hb hts hinX10 tyX10 tyX10_ok nmX10 hown hK hMo hS (Or.inl rfl) rfl 0 (by decide) (hts (.fieldLink RX10 16 "SteamfieldModel" "thrown" "I") (by decide +kernel)) (fun _ h9 => h9) rfl (by decide +kernel) rfl rfl (show 0 < 3 by decide) dX10_run_2 (fun H locs hMo z9 oq hS => ?_)
  have hMo : yMo dC dI mo 0 (ad 0) sm H := hMo
  have hH := hH.kept (fun i hi => oq _ (hm i hi))
  refine lv_iload_n hx hb dX10_run_5 rfl (lv_at hl 1 rfl) ?_
  refine y_cSi (D := (dC, dI)) (cl := vwCl) (tys := yt ca) (nw := zw_nest) (As := [.int a1]) (rest := []) ⟨hx, hb, hml, hown, hts⟩ (m_X10_areStepsn l dC dI ca (fun z : Heap => z = H) a1 h) (cwS 1 hts gX10_run_X10_areSteps rfl rfl rfl (by decide +kernel) ⟨Nat.le_of_ble_eq_true rfl, Nat.le_of_ble_eq_true rfl⟩) rfl hK hN hX zw_nest_ok rfl hl.1 rfl (Nat.le_of_ble_eq_true rfl) dX10_run_6 ⟨Nat.le_of_ble_eq_true rfl, Nat.le_of_ble_eq_true rfl⟩ hS (fun _ h => h.elim) (fun H locs hB1 oq1 hz1 hS => ?_)
  have hH : z_H (dC, dI) vwCl yf ca yd ad (yM 0) H := by rw [hB1]; exact hH
  have hMo : yMo dC dI mo 0 (ad 0) sm H := by rw [hB1]; exact hMo
  refine lv_if_eq (tgt := 23) hx hb dX10_run_9 (by decide) (fun _ => ?_) (fun c9 => absurd c9 (by decide))
  refine lv_aload_n hx hb dX10_run_23 rfl (lv_at hl 0 rfl) ?_
  refine lv_iconst (v := 1) hx hb dX10_run_24 (by decide) ?_
  refine y_cVi (D := (dC, dI)) (cl := vwCl) (tys := yt ca) (nw := zw_nest) (C := RX10) (As := [.int 1]) (rest := []) ⟨hx, hb, hml, hown, hts⟩ (m_X10_refuse l dC dI ca mo H.size ad hI hm 0 sm 1 ) (cwV 1 hts gX10_run_X10_refuse rfl rfl rfl (by decide +kernel) ⟨Nat.le_of_ble_eq_true rfl, Nat.le_of_ble_eq_true rfl⟩) (va_recv hK (y_one hMo) (ci := 10) rfl (q0 := 0) rfl) ⟨rfl, hMo, hH⟩ hK hN hX zw_nest_ok rfl hl.1 rfl (Nat.le_of_ble_eq_true rfl) dX10_run_25 ⟨Nat.le_of_ble_eq_true rfl, Nat.le_of_ble_eq_true rfl⟩ hS (yA_mono (by have b0 := hS.1; omega)) (fun H locs hB1 oq1 hz1 hS => ?_)
  obtain ⟨hMo, hH⟩ := hB1
  refine W.widen (k := 0) (n := 0) (Nat.le_of_ble_eq_true rfl) (Nat.le_of_ble_eq_true rfl) ?_
  exact W.iret (v := 0) hx hb hr (fun t ht hW => ⟨⟨0, (), rfl, rfl, z_to (B := (fun H => yMo dC dI mo 1 (ad 0) sm H ∧ yW dC dI ca ad (yM 0) H)) ht ⟨hMo, hH⟩⟩, hS.F ht⟩) hS.2.2 dX10_run_28
set_option maxHeartbeats 4000000 in
set_option maxRecDepth 100000 in
theorem m_X10_wouldGivey (l : Launch) (dC : Nat → ClassId) (dI : Nat → Nat → Nat) (ca : Nat → ClassId) (mo sz : Nat) (ad : Nat → Nat) (hI : z_I yd ad) (hm : ∀ i, yd.1 i < 200 → ad i ≠ mo) (th : Int32) (sm : Int64) (K : Nat) (hk30 : K ≤ 30) (h : z_rg (nI K) 1 30): Met l yX10_wouldGive wsX10_wouldGive ({ frames := 4, cells := 41, slots := 254, locals := 95 }) (z_Py (dC, dI) vwCl (yt ca) zw_nest [.ref mo, .int (nI K)] (fun H => H.size = sz ∧ yMo dC dI mo th (ad 0) sm H ∧ yW dC dI ca ad (yM 0) H)) (z_Qi 0 (fun H => yMo dC dI mo 0 (ad 0) sm H) (yA mo ad sz)) 41 254 (yA mo ad sz) := by
  refine Met.ofW (cc := cX10_wouldGive) (maxL := 2) (ret := (some .int)) (by decide) rfl ?_
  intro p e s m args below meth c s₁ B9 hml hv
  obtain ⟨rfl, ⟨hz, hMo, hH⟩, hK, hN, hX⟩ := hv
  have hx := B9.exec
  have hb := B9.bytes
  have hr := B9.returns
  have hts := atoms_spec (ws := wsX10_wouldGive) B9.pre
  have hown : s.vm.findClass RX10 = some m.cls := findClass_of_methodNamed B9.named
  have hlocks := B9.notSynchronized
  have hS : va_S (yA mo ad sz) s.heap s.heap [] := va_S.rf
  have hba : ∀ i, yd.1 i < 200 → ad i < sz := fun i hi => by have b0 := hH.lt hi; omega
  have hbm : mo < sz := by have b0 := va_at.lt hMo; exact hz ▸ b0
  have hAs : ∀ q, s.heap.size ≤ q → (yA mo ad sz) q := fun q h => Or.inr (Or.inr (hz ▸ h))
  have hinX10 : ∀ w ∈ u_ws RX10 TX10 3, w ∈ wsX10_wouldGive := by decide +kernel
  have hl := lv_entry ([.ref mo, .int (nI K)]) (n := 2) (Nat.le_of_ble_eq_true rfl)
  rw [lg_entry_eq]
  generalize (lg_sl ([.ref mo, .int (nI K)]) ++ List.replicate (2 - (lg_sl ([.ref mo, .int (nI K)])).length) Slot.unset).toArray = ls at hl ⊢
  have hl : lv_has ls 2 [(0, .ref mo), (1, .int (nI K))] := hl
  refine lv_aload_n hx hb dX10_wouldGive_0 rfl (lv_at hl 0 rfl) ?_
  refine lv_iconst (v := 0) hx hb dX10_wouldGive_1 (by decide) ?_
  refine yo_put (D := (dC, dI)) (cl := vwCl) (C := RX10) (T := TX10) (N := 3) (ci := 10) (ty := .int) hx hb hts hinX10 tyX10 tyX10_ok nmX10 hown hK hMo hS (Or.inl rfl) rfl 0 (by decide) (hts (.fieldLink RX10 16 "SteamfieldModel" "thrown" "I") (by decide +kernel)) (fun _ h9 => h9) rfl (by decide +kernel) rfl rfl (show 0 < 3 by decide) dX10_wouldGive_2 (fun H locs hMo z9 oq hS => ?_)
  have hMo : yMo dC dI mo 0 (ad 0) sm H := hMo
  have hH := hH.kept (fun i hi => oq _ (hm i hi))
  refine lv_iload_n hx hb dX10_wouldGive_5 rfl (lv_at hl 1 rfl) ?_
  refine y_cSi (D := (dC, dI)) (cl := vwCl) (tys := yt ca) (nw := zw_nest) (As := [.int (nI K)]) (rest := []) ⟨hx, hb, hml, hown, hts⟩ (m_X10_areStepsy l dC dI ca (fun z : Heap => z = H) (nI K) h) (cwS 1 hts gX10_wouldGive_X10_areSteps rfl rfl rfl (by decide +kernel) ⟨Nat.le_of_ble_eq_true rfl, Nat.le_of_ble_eq_true rfl⟩) rfl hK hN hX zw_nest_ok rfl hl.1 rfl (Nat.le_of_ble_eq_true rfl) dX10_wouldGive_6 ⟨Nat.le_of_ble_eq_true rfl, Nat.le_of_ble_eq_true rfl⟩ hS (fun _ h => h.elim) (fun H locs hB1 oq1 hz1 hS => ?_)
  have hH : z_H (dC, dI) vwCl yf ca yd ad (yM 0) H := by rw [hB1]; exact hH
  have hMo : yMo dC dI mo 0 (ad 0) sm H := by rw [hB1]; exact hMo
  refine lv_if_eq (tgt := 26) hx hb dX10_wouldGive_9 (by decide) (fun c9 => absurd c9 (by decide)) (fun _ => ?_)
  refine lv_aload_n hx hb dX10_wouldGive_12 rfl (lv_at hl 0 rfl) ?_
  refine yo_get (D := (dC, dI)) (cl := vwCl) (C := RX10) (T := TX10) (N := 3) (ci := 10) (v := .ref (ad 0)) hx hb hts hinX10 hown hK hMo rfl 1 (by decide) (hts (.fieldLink RX10 10 "SteamfieldModel" "field" "LSteamfieldModel$Field;") (by decide +kernel)) (fun _ h9 => h9) rfl dX10_wouldGive_13 ?_
  obtain ⟨c1, ec1⟩ : ∃ z, z = H.size := ⟨_, rfl⟩
  have hg1 : sz ≤ c1 := by have b0 := hS.1; omega
  refine y_cVr (D := (dC, dI)) (cl := vwCl) (tys := yt ca) (nw := zw_nest) (C := RX9) (As := []) (rest := []) ⟨hx, hb, hml, hown, hts⟩ (m_X9_copy l dC dI ca ad hI c1  ) (cwV 0 hts gX10_wouldGive_X9_copy rfl rfl rfl (by decide +kernel) ⟨Nat.le_of_ble_eq_true rfl, Nat.le_of_ble_eq_true rfl⟩) (z_recv (ci := 9) (i := 0) hK hH yk_0 (by decide) rfl) ⟨ec1.symm, hH⟩ hK hN hX zw_nest_ok rfl hl.1 rfl (Nat.le_of_ble_eq_true rfl) dX10_wouldGive_16 ⟨Nat.le_of_ble_eq_true rfl, Nat.le_of_ble_eq_true rfl⟩ hS (fun q h => Or.inr (Or.inr (Nat.le_trans hg1 h))) (fun H locs hB1 oq1 hz1 hS => ?_)
  have hMo := va_at.kept hMo (oq1 _ (va_at.lt hMo) (by have b9 := va_at.lt hMo; show ¬ (c1 ≤ _); omega))
  obtain ⟨hH, hG1⟩ := hB1
  have hI1 : z_I yd (yad c1 (c1 + 1)) := yad_I (Nat.lt_succ_self _)
  have hga1 : ∀ i, c1 ≤ (yad c1 (c1 + 1)) i := fun i => yad_ge i
  refine lv_iload_n hx hb dX10_wouldGive_19 rfl (lv_at hl 1 rfl) ?_
  refine y_cVi (D := (dC, dI)) (cl := vwCl) (tys := yt ca) (nw := zw_nest) (C := RX9) (As := [.int (nI K)]) (rest := []) ⟨hx, hb, hml, hown, hts⟩ (m_X9_run l dC dI ca (yad c1 (c1 + 1)) hI1 0 (by decide) K (by omega)) (cwV 1 hts gX10_wouldGive_X9_run rfl rfl rfl (by decide +kernel) ⟨Nat.le_of_ble_eq_true rfl, Nat.le_of_ble_eq_true rfl⟩) (z_recv (ci := 9) (i := 0) hK hG1 yk_0 (by decide) rfl) hG1 hK hN hX zw_nest_ok rfl hl.1 rfl (Nat.le_of_ble_eq_true rfl) dX10_wouldGive_20 ⟨Nat.le_of_ble_eq_true rfl, Nat.le_of_ble_eq_true rfl⟩ hS (by rintro q ⟨i, _, rfl⟩; exact Or.inr (Or.inr (Nat.le_trans hg1 (hga1 i)))) (fun H locs hB1 oq1 hz1 hS => ?_)
  have hH := hH.kept (fun i hi => oq1 _ (hH.lt hi) (by rintro ⟨j, hj, e9⟩; have b0 := hba i hi; have b1 := hga1 j; have b2 := hg1; omega))
  have hMo := va_at.kept hMo (oq1 _ (va_at.lt hMo) (by rintro ⟨j, hj, e9⟩; have b0 := hbm; have b1 := hga1 j; have b2 := hg1; omega))
  have hG1 : z_H (dC, dI) vwCl yf ca yd (yad c1 (c1 + 1)) (yM (0 + K)) H := hB1
  refine lv_goto (tgt := 31) hx hb dX10_wouldGive_23 (by decide) ?_
  refine W.widen (k := 41) (n := 254) (Nat.le_of_ble_eq_true rfl) (Nat.le_of_ble_eq_true rfl) ?_
  exact W.iret (v := 0) hx hb hr (fun t ht hW => ⟨⟨0, (), rfl, rfl, z_to (B := (fun H => yMo dC dI mo 0 (ad 0) sm H)) ht hMo⟩, hS.F ht⟩) hS.2.2 dX10_wouldGive_31
set_option maxHeartbeats 4000000 in
set_option maxRecDepth 100000 in
theorem m_X10_wouldGiven (l : Launch) (dC : Nat → ClassId) (dI : Nat → Nat → Nat) (ca : Nat → ClassId) (mo sz : Nat) (ad : Nat → Nat) (hI : z_I yd ad) (hm : ∀ i, yd.1 i < 200 → ad i ≠ mo) (th : Int32) (sm : Int64) (a1 : Int32) (h : ¬ z_rg a1 1 30): Met l yX10_wouldGive wsX10_wouldGive ({ frames := 2, cells := 0, slots := 0, locals := 42 }) (z_Py (dC, dI) vwCl (yt ca) zw_nest [.ref mo, .int a1] (fun H => H.size = sz ∧ yMo dC dI mo th (ad 0) sm H ∧ yW dC dI ca ad (yM 0) H)) (z_Qi 0 (fun H => yMo dC dI mo 1 (ad 0) sm H ∧ yW dC dI ca ad (yM 0) H) (yA mo ad sz)) 0 0 (yA mo ad sz) := by
  refine Met.ofW (cc := cX10_wouldGive) (maxL := 2) (ret := (some .int)) (by decide) rfl ?_
  intro p e s m args below meth c s₁ B9 hml hv
  obtain ⟨rfl, ⟨hz, hMo, hH⟩, hK, hN, hX⟩ := hv
  have hx := B9.exec
  have hb := B9.bytes
  have hr := B9.returns
  have hts := atoms_spec (ws := wsX10_wouldGive) B9.pre
  have hown : s.vm.findClass RX10 = some m.cls := findClass_of_methodNamed B9.named
  have hlocks := B9.notSynchronized
  have hS : va_S (yA mo ad sz) s.heap s.heap [] := va_S.rf
  have hba : ∀ i, yd.1 i < 200 → ad i < sz := fun i hi => by have b0 := hH.lt hi; omega
  have hbm : mo < sz := by have b0 := va_at.lt hMo; exact hz ▸ b0
  have hAs : ∀ q, s.heap.size ≤ q → (yA mo ad sz) q := fun q h => Or.inr (Or.inr (hz ▸ h))
  have hinX10 : ∀ w ∈ u_ws RX10 TX10 3, w ∈ wsX10_wouldGive := by decide +kernel
  have hl := lv_entry ([.ref mo, .int a1]) (n := 2) (Nat.le_of_ble_eq_true rfl)
  rw [lg_entry_eq]
  generalize (lg_sl ([.ref mo, .int a1]) ++ List.replicate (2 - (lg_sl ([.ref mo, .int a1])).length) Slot.unset).toArray = ls at hl ⊢
  have hl : lv_has ls 2 [(0, .ref mo), (1, .int a1)] := hl
  refine lv_aload_n hx hb dX10_wouldGive_0 rfl (lv_at hl 0 rfl) ?_
  refine lv_iconst (v := 0) hx hb dX10_wouldGive_1 (by decide) ?_
  refine yo_put (D := (dC, dI)) (cl := vwCl) (C := RX10) (T := TX10) (N := 3) (ci := 10) (ty := .int) hx hb hts hinX10 tyX10 tyX10_ok nmX10 hown hK hMo hS (Or.inl rfl) rfl 0 (by decide) (hts (.fieldLink RX10 16 "SteamfieldModel" "thrown" "I") (by decide +kernel)) (fun _ h9 => h9) rfl (by decide +kernel) rfl rfl (show 0 < 3 by decide) dX10_wouldGive_2 (fun H locs hMo z9 oq hS => ?_)
  have hMo : yMo dC dI mo 0 (ad 0) sm H := hMo
  have hH := hH.kept (fun i hi => oq _ (hm i hi))
  refine lv_iload_n hx hb dX10_wouldGive_5 rfl (lv_at hl 1 rfl) ?_
  refine y_cSi (D := (dC, dI)) (cl := vwCl) (tys := yt ca) (nw := zw_nest) (As := [.int a1]) (rest := []) ⟨hx, hb, hml, hown, hts⟩ (m_X10_areStepsn l dC dI ca (fun z : Heap => z = H) a1 h) (cwS 1 hts gX10_wouldGive_X10_areSteps rfl rfl rfl (by decide +kernel) ⟨Nat.le_of_ble_eq_true rfl, Nat.le_of_ble_eq_true rfl⟩) rfl hK hN hX zw_nest_ok rfl hl.1 rfl (Nat.le_of_ble_eq_true rfl) dX10_wouldGive_6 ⟨Nat.le_of_ble_eq_true rfl, Nat.le_of_ble_eq_true rfl⟩ hS (fun _ h => h.elim) (fun H locs hB1 oq1 hz1 hS => ?_)
  have hH : z_H (dC, dI) vwCl yf ca yd ad (yM 0) H := by rw [hB1]; exact hH
  have hMo : yMo dC dI mo 0 (ad 0) sm H := by rw [hB1]; exact hMo
  refine lv_if_eq (tgt := 26) hx hb dX10_wouldGive_9 (by decide) (fun _ => ?_) (fun c9 => absurd c9 (by decide))
  refine lv_aload_n hx hb dX10_wouldGive_26 rfl (lv_at hl 0 rfl) ?_
  refine lv_iconst (v := 1) hx hb dX10_wouldGive_27 (by decide) ?_
  refine y_cVi (D := (dC, dI)) (cl := vwCl) (tys := yt ca) (nw := zw_nest) (C := RX10) (As := [.int 1]) (rest := []) ⟨hx, hb, hml, hown, hts⟩ (m_X10_refuse l dC dI ca mo H.size ad hI hm 0 sm 1 ) (cwV 1 hts gX10_wouldGive_X10_refuse rfl rfl rfl (by decide +kernel) ⟨Nat.le_of_ble_eq_true rfl, Nat.le_of_ble_eq_true rfl⟩) (va_recv hK (y_one hMo) (ci := 10) rfl (q0 := 0) rfl) ⟨rfl, hMo, hH⟩ hK hN hX zw_nest_ok rfl hl.1 rfl (Nat.le_of_ble_eq_true rfl) dX10_wouldGive_28 ⟨Nat.le_of_ble_eq_true rfl, Nat.le_of_ble_eq_true rfl⟩ hS (yA_mono (by have b0 := hS.1; omega)) (fun H locs hB1 oq1 hz1 hS => ?_)
  obtain ⟨hMo, hH⟩ := hB1
  refine W.widen (k := 0) (n := 0) (Nat.le_of_ble_eq_true rfl) (Nat.le_of_ble_eq_true rfl) ?_
  exact W.iret (v := 0) hx hb hr (fun t ht hW => ⟨⟨0, (), rfl, rfl, z_to (B := (fun H => yMo dC dI mo 1 (ad 0) sm H ∧ yW dC dI ca ad (yM 0) H)) ht ⟨hMo, hH⟩⟩, hS.F ht⟩) hS.2.2 dX10_wouldGive_31
set_option maxHeartbeats 4000000 in
set_option maxRecDepth 100000 in
theorem m_X10_valuesOf (l : Launch) (dC : Nat → ClassId) (dI : Nat → Nat → Nat) (ca : Nat → ClassId) (mo sz : Nat) (ad : Nat → Nat) (hI : z_I yd ad) (hm : ∀ i, yd.1 i < 200 → ad i ≠ mo) (th : Int32) (sm : Int64) (a1 : Int32) (K : Nat) (hk30 : K ≤ 30): Met l yX10_valuesOf wsX10_valuesOf ({ frames := 4, cells := 41, slots := 254, locals := 95 }) (z_Py (dC, dI) vwCl (yt ca) zw_nest [.ref mo, .int a1, .int (nI K)] (fun H => H.size = sz ∧ yMo dC dI mo th (ad 0) sm H ∧ yW dC dI ca ad (yM 0) H)) (z_Qi 0 (fun H => yMo dC dI mo th (ad 0) sm H ∧ yW dC dI ca ad (yM 0) H) (yA mo ad sz)) 41 254 (yA mo ad sz) := by
  refine Met.ofW (cc := cX10_valuesOf) (maxL := 5) (ret := (some .int)) (by decide) rfl ?_
  intro p e s m args below meth c s₁ B9 hml hv
  obtain ⟨rfl, ⟨hz, hMo, hH⟩, hK, hN, hX⟩ := hv
  have hx := B9.exec
  have hb := B9.bytes
  have hr := B9.returns
  have hts := atoms_spec (ws := wsX10_valuesOf) B9.pre
  have hown : s.vm.findClass RX10 = some m.cls := findClass_of_methodNamed B9.named
  have hlocks := B9.notSynchronized
  have hS : va_S (yA mo ad sz) s.heap s.heap [] := va_S.rf
  have hba : ∀ i, yd.1 i < 200 → ad i < sz := fun i hi => by have b0 := hH.lt hi; omega
  have hbm : mo < sz := by have b0 := va_at.lt hMo; exact hz ▸ b0
  have hAs : ∀ q, s.heap.size ≤ q → (yA mo ad sz) q := fun q h => Or.inr (Or.inr (hz ▸ h))
  have hinX10 : ∀ w ∈ u_ws RX10 TX10 3, w ∈ wsX10_valuesOf := by decide +kernel
  have hinX9 : ∀ w ∈ u_ws RX9 TX9 24, w ∈ wsX10_valuesOf := by decide +kernel
  have hl := lv_entry ([.ref mo, .int a1, .int (nI K)]) (n := 5) (Nat.le_of_ble_eq_true rfl)
  rw [lg_entry_eq]
  generalize (lg_sl ([.ref mo, .int a1, .int (nI K)]) ++ List.replicate (5 - (lg_sl ([.ref mo, .int a1, .int (nI K)])).length) Slot.unset).toArray = ls at hl ⊢
  have hl : lv_has ls 5 [(0, .ref mo), (1, .int a1), (2, .int (nI K))] := hl
  refine lv_aload_n hx hb dX10_valuesOf_0 rfl (lv_at hl 0 rfl) ?_
  refine yo_get (D := (dC, dI)) (cl := vwCl) (C := RX10) (T := TX10) (N := 3) (ci := 10) (v := .ref (ad 0)) hx hb hts hinX10 hown hK hMo rfl 1 (by decide) (hts (.fieldLink RX10 10 "SteamfieldModel" "field" "LSteamfieldModel$Field;") (by decide +kernel)) (fun _ h9 => h9) rfl dX10_valuesOf_1 ?_
  obtain ⟨c1, ec1⟩ : ∃ z, z = s.heap.size := ⟨_, rfl⟩
  have hg1 : sz ≤ c1 := by have b0 := hS.1; omega
  refine y_cVr (D := (dC, dI)) (cl := vwCl) (tys := yt ca) (nw := zw_nest) (C := RX9) (As := []) (rest := []) ⟨hx, hb, hml, hown, hts⟩ (m_X9_copy l dC dI ca ad hI c1  ) (cwV 0 hts gX10_valuesOf_X9_copy rfl rfl rfl (by decide +kernel) ⟨Nat.le_of_ble_eq_true rfl, Nat.le_of_ble_eq_true rfl⟩) (z_recv (ci := 9) (i := 0) hK hH yk_0 (by decide) rfl) ⟨ec1.symm, hH⟩ hK hN hX zw_nest_ok rfl hl.1 rfl (Nat.le_of_ble_eq_true rfl) dX10_valuesOf_4 ⟨Nat.le_of_ble_eq_true rfl, Nat.le_of_ble_eq_true rfl⟩ hS (fun q h => Or.inr (Or.inr (Nat.le_trans hg1 h))) (fun H locs hB1 oq1 hz1 hS => ?_)
  have hMo := va_at.kept hMo (oq1 _ (va_at.lt hMo) (by have b9 := va_at.lt hMo; show ¬ (c1 ≤ _); omega))
  obtain ⟨hH, hG1⟩ := hB1
  have hI1 : z_I yd (yad c1 (c1 + 1)) := yad_I (Nat.lt_succ_self _)
  have hga1 : ∀ i, c1 ≤ (yad c1 (c1 + 1)) i := fun i => yad_ge i
  refine lv_astore_n (lv' := [(3, .ref ((yad c1 (c1 + 1)) 0)), (0, .ref mo), (1, .int a1), (2, .int (nI K))]) hx hb dX10_valuesOf_7 rfl hl (by decide) rfl (fun ls hl => ?_)
  refine lv_iconst (v := 0) hx hb dX10_valuesOf_8 (by decide) ?_
  refine lv_istore (lv' := [(4, .int 0), (3, .ref ((yad c1 (c1 + 1)) 0)), (0, .ref mo), (1, .int a1), (2, .int (nI K))]) hx hb dX10_valuesOf_9 hl (by decide) rfl (fun ls hl => ?_)
  refine lv_iload hx hb dX10_valuesOf_11 (lv_at hl 0 rfl) ?_
  refine lv_aload_n hx hb dX10_valuesOf_13 rfl (lv_at hl 1 rfl) ?_
  refine z_giN (D := (dC, dI)) (cl := vwCl) (C := RX9) (T := TX9) (N := 24) (ci := 9) (k := 6) hx hb hts hinX9 hown hK hG1 (i := 0) yk_0 (by decide) rfl (by decide) rfl (hN (.fieldLinkNest RX10 30 "SteamfieldModel$Field" "manyWells" "I" "SteamfieldModel") (by decide +kernel)) (fun _ h9 => h9) dX10_valuesOf_14 ?_
  refine y_num (b := 0) rfl ?_
  refine lv_icmp_ge (tgt := 59) hx hb dX10_valuesOf_17 (by decide) (fun _ => ?_) (fun c9 => absurd c9 (by decide))
  refine lv_aload_n hx hb dX10_valuesOf_59 rfl (lv_at hl 1 rfl) ?_
  refine y_cVi (D := (dC, dI)) (cl := vwCl) (tys := yt ca) (nw := zw_nest) (C := RX9) (As := []) (rest := []) ⟨hx, hb, hml, hown, hts⟩ (m_X9_lacks l dC dI ca (yad c1 (c1 + 1)) hI1 0 (by omega)  ) (cwV 0 hts gX10_valuesOf_X9_lacks rfl rfl rfl (by decide +kernel) ⟨Nat.le_of_ble_eq_true rfl, Nat.le_of_ble_eq_true rfl⟩) (z_recv (ci := 9) (i := 0) hK hG1 yk_0 (by decide) rfl) hG1 hK hN hX zw_nest_ok rfl hl.1 rfl (Nat.le_of_ble_eq_true rfl) dX10_valuesOf_60 ⟨Nat.le_of_ble_eq_true rfl, Nat.le_of_ble_eq_true rfl⟩ hS (by rintro q ⟨i, _, rfl⟩; exact Or.inr (Or.inr (Nat.le_trans hg1 (hga1 i)))) (fun H locs hB1 oq1 hz1 hS => ?_)
  have hH := hH.kept (fun i hi => oq1 _ (hH.lt hi) (by rintro ⟨j, hj, e9⟩; have b0 := hba i hi; have b1 := hga1 j; have b2 := hg1; omega))
  have hMo := va_at.kept hMo (oq1 _ (va_at.lt hMo) (by rintro ⟨j, hj, e9⟩; have b0 := hbm; have b1 := hga1 j; have b2 := hg1; omega))
  have hG1 : z_H (dC, dI) vwCl yf ca yd (yad c1 (c1 + 1)) (yM 0) H := hB1
  refine lv_istore (lv' := [(4, .int 0), (3, .ref ((yad c1 (c1 + 1)) 0)), (0, .ref mo), (1, .int a1), (2, .int (nI K))]) hx hb dX10_valuesOf_63 hl (by decide) rfl (fun ls hl => ?_)
  refine lv_aload_n hx hb dX10_valuesOf_65 rfl (lv_at hl 1 rfl) ?_
  refine lv_iload_n hx hb dX10_valuesOf_66 rfl (lv_at hl 4 rfl) ?_
  refine y_cVi (D := (dC, dI)) (cl := vwCl) (tys := yt ca) (nw := zw_nest) (C := RX9) (As := [.int (nI K)]) (rest := []) ⟨hx, hb, hml, hown, hts⟩ (m_X9_run l dC dI ca (yad c1 (c1 + 1)) hI1 0 (by omega) K (by omega)) (cwV 1 hts gX10_valuesOf_X9_run rfl rfl rfl (by decide +kernel) ⟨Nat.le_of_ble_eq_true rfl, Nat.le_of_ble_eq_true rfl⟩) (z_recv (ci := 9) (i := 0) hK hG1 yk_0 (by decide) rfl) hG1 hK hN hX zw_nest_ok rfl hl.1 rfl (Nat.le_of_ble_eq_true rfl) dX10_valuesOf_67 ⟨Nat.le_of_ble_eq_true rfl, Nat.le_of_ble_eq_true rfl⟩ hS (by rintro q ⟨i, _, rfl⟩; exact Or.inr (Or.inr (Nat.le_trans hg1 (hga1 i)))) (fun H locs hB1 oq1 hz1 hS => ?_)
  have hH := hH.kept (fun i hi => oq1 _ (hH.lt hi) (by rintro ⟨j, hj, e9⟩; have b0 := hba i hi; have b1 := hga1 j; have b2 := hg1; omega))
  have hMo := va_at.kept hMo (oq1 _ (va_at.lt hMo) (by rintro ⟨j, hj, e9⟩; have b0 := hbm; have b1 := hga1 j; have b2 := hg1; omega))
  have hG1 : z_H (dC, dI) vwCl yf ca yd (yad c1 (c1 + 1)) (yM (0 + K)) H := hB1
  refine lv_iconst (v := 3) hx hb dX10_valuesOf_70 (by decide) ?_
  refine lv_aload_n hx hb dX10_valuesOf_71 rfl (lv_at hl 1 rfl) ?_
  refine y_cVi (D := (dC, dI)) (cl := vwCl) (tys := yt ca) (nw := zw_nest) (C := RX9) (As := []) (rest := [.int 3, .int 0]) ⟨hx, hb, hml, hown, hts⟩ (m_X9_lacks l dC dI ca (yad c1 (c1 + 1)) hI1 (0 + K) (by omega)  ) (cwV 0 hts gX10_valuesOf_X9_lacks rfl rfl rfl (by decide +kernel) ⟨Nat.le_of_ble_eq_true rfl, Nat.le_of_ble_eq_true rfl⟩) (z_recv (ci := 9) (i := 0) hK hG1 yk_0 (by decide) rfl) hG1 hK hN hX zw_nest_ok rfl hl.1 rfl (Nat.le_of_ble_eq_true rfl) dX10_valuesOf_72 ⟨Nat.le_of_ble_eq_true rfl, Nat.le_of_ble_eq_true rfl⟩ hS (by rintro q ⟨i, _, rfl⟩; exact Or.inr (Or.inr (Nat.le_trans hg1 (hga1 i)))) (fun H locs hB1 oq1 hz1 hS => ?_)
  have hH := hH.kept (fun i hi => oq1 _ (hH.lt hi) (by rintro ⟨j, hj, e9⟩; have b0 := hba i hi; have b1 := hga1 j; have b2 := hg1; omega))
  have hMo := va_at.kept hMo (oq1 _ (va_at.lt hMo) (by rintro ⟨j, hj, e9⟩; have b0 := hbm; have b1 := hga1 j; have b2 := hg1; omega))
  have hG1 : z_H (dC, dI) vwCl yf ca yd (yad c1 (c1 + 1)) (yM (0 + K)) H := hB1
  refine lv_iload hx hb dX10_valuesOf_75 (lv_at hl 0 rfl) ?_
  refine lv_isub hx hb dX10_valuesOf_77 ?_
  refine y_num (b := 0) (by decide) ?_
  refine lv_imul hx hb dX10_valuesOf_78 ?_
  refine y_num (b := 0) (by decide) ?_
  refine lv_isub hx hb dX10_valuesOf_79 ?_
  refine y_num (b := 0) (by decide) ?_
  refine W.widen (k := 41) (n := 254) (Nat.le_of_ble_eq_true rfl) (Nat.le_of_ble_eq_true rfl) ?_
  exact W.iret (v := 0) hx hb hr (fun t ht hW => ⟨⟨0, (), rfl, rfl, z_to (B := (fun H => yMo dC dI mo th (ad 0) sm H ∧ yW dC dI ca ad (yM 0) H)) ht ⟨hMo, hH⟩⟩, hS.F ht⟩) hS.2.2 dX10_valuesOf_80
set_option maxHeartbeats 4000000 in
set_option maxRecDepth 100000 in
theorem m_X10_bestNow (l : Launch) (dC : Nat → ClassId) (dI : Nat → Nat → Nat) (ca : Nat → ClassId) (mo sz : Nat) (ad : Nat → Nat) (hI : z_I yd ad) (hm : ∀ i, yd.1 i < 200 → ad i ≠ mo) (th : Int32) (sm : Int64) (K : Nat) (hk30 : K ≤ 30): Met l yX10_bestNow wsX10_bestNow ({ frames := 5, cells := 656, slots := 4064, locals := 119 }) (z_Py (dC, dI) vwCl (yt ca) zw_nest [.ref mo, .int (nI K)] (fun H => H.size = sz ∧ yMo dC dI mo th (ad 0) sm H ∧ yW dC dI ca ad (yM 0) H)) (z_Qi 0 (fun H => yMo dC dI mo th (ad 0) sm H ∧ yW dC dI ca ad (yM 0) H) (yA mo ad sz)) 656 4064 (yA mo ad sz) := by
  refine Met.ofW (cc := cX10_bestNow) (maxL := 7) (ret := (some .int)) (by decide) rfl ?_
  intro p e s m args below meth c s₁ B9 hml hv
  obtain ⟨rfl, ⟨hz, hMo, hH⟩, hK, hN, hX⟩ := hv
  have hx := B9.exec
  have hb := B9.bytes
  have hr := B9.returns
  have hts := atoms_spec (ws := wsX10_bestNow) B9.pre
  have hown : s.vm.findClass RX10 = some m.cls := findClass_of_methodNamed B9.named
  have hlocks := B9.notSynchronized
  have hS : va_S (yA mo ad sz) s.heap s.heap [] := va_S.rf
  have hba : ∀ i, yd.1 i < 200 → ad i < sz := fun i hi => by have b0 := hH.lt hi; omega
  have hbm : mo < sz := by have b0 := va_at.lt hMo; exact hz ▸ b0
  have hAs : ∀ q, s.heap.size ≤ q → (yA mo ad sz) q := fun q h => Or.inr (Or.inr (hz ▸ h))
  have hl := lv_entry ([.ref mo, .int (nI K)]) (n := 7) (Nat.le_of_ble_eq_true rfl)
  rw [lg_entry_eq]
  generalize (lg_sl ([.ref mo, .int (nI K)]) ++ List.replicate (7 - (lg_sl ([.ref mo, .int (nI K)])).length) Slot.unset).toArray = ls at hl ⊢
  have hl : lv_has ls 7 [(0, .ref mo), (1, .int (nI K))] := hl
  refine lv_iconst (v := 0) hx hb dX10_bestNow_0 (by decide) ?_
  refine lv_istore_n (lv' := [(2, .int 0), (0, .ref mo), (1, .int (nI K))]) hx hb dX10_bestNow_1 rfl hl (by decide) rfl (fun ls hl => ?_)
  refine lv_aload_n hx hb dX10_bestNow_2 rfl (lv_at hl 1 rfl) ?_
  refine lv_iconst (v := 0) hx hb dX10_bestNow_3 (by decide) ?_
  refine lv_iload_n hx hb dX10_bestNow_4 rfl (lv_at hl 2 rfl) ?_
  refine y_cVi (D := (dC, dI)) (cl := vwCl) (tys := yt ca) (nw := zw_nest) (C := RX10) (As := [.int 0, .int (nI K)]) (rest := []) ⟨hx, hb, hml, hown, hts⟩ (m_X10_valuesOf l dC dI ca mo s.heap.size ad hI hm th sm 0 K hk30) (cwV 2 hts gX10_bestNow_X10_valuesOf rfl rfl rfl (by decide +kernel) ⟨Nat.le_of_ble_eq_true rfl, Nat.le_of_ble_eq_true rfl⟩) (va_recv hK (y_one hMo) (ci := 10) rfl (q0 := 0) rfl) ⟨rfl, hMo, hH⟩ hK hN hX zw_nest_ok rfl hl.1 rfl (Nat.le_of_ble_eq_true rfl) dX10_bestNow_5 ⟨Nat.le_of_ble_eq_true rfl, Nat.le_of_ble_eq_true rfl⟩ hS (yA_mono (by have b0 := hS.1; omega)) (fun H locs hB1 oq1 hz1 hS => ?_)
  obtain ⟨hMo, hH⟩ := hB1
  refine lv_istore_n (lv' := [(3, .int 0), (2, .int 0), (0, .ref mo), (1, .int (nI K))]) hx hb dX10_bestNow_8 rfl hl (by decide) rfl (fun ls hl => ?_)
  refine lv_iconst (v := 1) hx hb dX10_bestNow_9 (by decide) ?_
  refine lv_istore (lv' := [(4, .int 1), (3, .int 0), (2, .int 0), (0, .ref mo), (1, .int (nI K))]) hx hb dX10_bestNow_10 hl (by decide) rfl (fun ls hl => ?_)
  refine lv_iload hx hb dX10_bestNow_12 (lv_at hl 0 rfl) ?_
  refine lv_bipush (v := 16) hx hb dX10_bestNow_14 (by decide) ?_
  refine lv_icmp_ge (tgt := 65) hx hb dX10_bestNow_16 (by decide) (fun c9 => absurd c9 (by decide)) (fun _ => ?_)
  refine lv_bipush (v := 30) hx hb dX10_bestNow_19 (by decide) ?_
  refine lv_iload hx hb dX10_bestNow_21 (lv_at hl 0 rfl) ?_
  refine lv_iconst (v := 4) hx hb dX10_bestNow_23 (by decide) ?_
  refine lv_idiv hx hb dX10_bestNow_24 (by decide) ?_
  refine y_num (b := 0) (by decide) ?_
  refine lv_imul hx hb dX10_bestNow_25 ?_
  refine y_num (b := 0) (by decide) ?_
  refine lv_iconst (v := 3) hx hb dX10_bestNow_26 (by decide) ?_
  refine lv_iload hx hb dX10_bestNow_27 (lv_at hl 0 rfl) ?_
  refine lv_iconst (v := 4) hx hb dX10_bestNow_29 (by decide) ?_
  refine lv_irem hx hb dX10_bestNow_30 (by decide) ?_
  refine y_num (b := 1) (by decide) ?_
  refine lv_imul hx hb dX10_bestNow_31 ?_
  refine y_num (b := 3) (by decide) ?_
  refine lv_iadd hx hb dX10_bestNow_32 ?_
  refine y_num (b := 3) (by decide) ?_
  refine lv_istore (lv' := [(5, .int 3), (4, .int 1), (3, .int 0), (2, .int 0), (0, .ref mo), (1, .int (nI K))]) hx hb dX10_bestNow_33 hl (by decide) rfl (fun ls hl => ?_)
  refine lv_aload_n hx hb dX10_bestNow_35 rfl (lv_at hl 4 rfl) ?_
  refine lv_iload hx hb dX10_bestNow_36 (lv_at hl 0 rfl) ?_
  refine lv_iload_n hx hb dX10_bestNow_38 rfl (lv_at hl 5 rfl) ?_
  refine y_cVi (D := (dC, dI)) (cl := vwCl) (tys := yt ca) (nw := zw_nest) (C := RX10) (As := [.int 3, .int (nI K)]) (rest := []) ⟨hx, hb, hml, hown, hts⟩ (m_X10_valuesOf l dC dI ca mo H.size ad hI hm th sm 3 K hk30) (cwV 2 hts gX10_bestNow_X10_valuesOf rfl rfl rfl (by decide +kernel) ⟨Nat.le_of_ble_eq_true rfl, Nat.le_of_ble_eq_true rfl⟩) (va_recv hK (y_one hMo) (ci := 10) rfl (q0 := 0) rfl) ⟨rfl, hMo, hH⟩ hK hN hX zw_nest_ok rfl hl.1 rfl (Nat.le_of_ble_eq_true rfl) dX10_bestNow_39 ⟨Nat.le_of_ble_eq_true rfl, Nat.le_of_ble_eq_true rfl⟩ hS (yA_mono (by have b0 := hS.1; omega)) (fun H locs hB1 oq1 hz1 hS => ?_)
  obtain ⟨hMo, hH⟩ := hB1
  refine lv_istore (lv' := [(6, .int 0), (5, .int 3), (4, .int 1), (3, .int 0), (2, .int 0), (0, .ref mo), (1, .int (nI K))]) hx hb dX10_bestNow_42 hl (by decide) rfl (fun ls hl => ?_)
  refine lv_iload hx hb dX10_bestNow_44 (lv_at hl 0 rfl) ?_
  refine lv_iload_n hx hb dX10_bestNow_46 rfl (lv_at hl 3 rfl) ?_
  refine lv_icmp_gt (tgt := 53) hx hb dX10_bestNow_47 (by decide) (fun c9 => absurd c9 (by decide)) (fun _ => ?_)
  refine lv_goto (tgt := 59) hx hb dX10_bestNow_50 (by decide) ?_
  refine lv_iinc (v := 2) (lv' := [(4, .int 2), (6, .int 0), (5, .int 3), (3, .int 0), (2, .int 0), (0, .ref mo), (1, .int (nI K))]) hx hb dX10_bestNow_59 hl (k := 2) rfl (by decide) (by decide) rfl (fun ls hl => ?_)
  refine lv_goto (tgt := 12) hx hb dX10_bestNow_62 (by decide) ?_
  refine lv_iload hx hb dX10_bestNow_12 (lv_at hl 0 rfl) ?_
  refine lv_bipush (v := 16) hx hb dX10_bestNow_14 (by decide) ?_
  refine lv_icmp_ge (tgt := 65) hx hb dX10_bestNow_16 (by decide) (fun c9 => absurd c9 (by decide)) (fun _ => ?_)
  refine lv_bipush (v := 30) hx hb dX10_bestNow_19 (by decide) ?_
  refine lv_iload hx hb dX10_bestNow_21 (lv_at hl 0 rfl) ?_
  refine lv_iconst (v := 4) hx hb dX10_bestNow_23 (by decide) ?_
  refine lv_idiv hx hb dX10_bestNow_24 (by decide) ?_
  refine y_num (b := 0) (by decide) ?_
  refine lv_imul hx hb dX10_bestNow_25 ?_
  refine y_num (b := 0) (by decide) ?_
  refine lv_iconst (v := 3) hx hb dX10_bestNow_26 (by decide) ?_
  refine lv_iload hx hb dX10_bestNow_27 (lv_at hl 0 rfl) ?_
  refine lv_iconst (v := 4) hx hb dX10_bestNow_29 (by decide) ?_
  refine lv_irem hx hb dX10_bestNow_30 (by decide) ?_
  refine y_num (b := 2) (by decide) ?_
  refine lv_imul hx hb dX10_bestNow_31 ?_
  refine y_num (b := 6) (by decide) ?_
  refine lv_iadd hx hb dX10_bestNow_32 ?_
  refine y_num (b := 6) (by decide) ?_
  refine lv_istore (lv' := [(5, .int 6), (4, .int 2), (6, .int 0), (3, .int 0), (2, .int 0), (0, .ref mo), (1, .int (nI K))]) hx hb dX10_bestNow_33 hl (by decide) rfl (fun ls hl => ?_)
  refine lv_aload_n hx hb dX10_bestNow_35 rfl (lv_at hl 5 rfl) ?_
  refine lv_iload hx hb dX10_bestNow_36 (lv_at hl 0 rfl) ?_
  refine lv_iload_n hx hb dX10_bestNow_38 rfl (lv_at hl 6 rfl) ?_
  refine y_cVi (D := (dC, dI)) (cl := vwCl) (tys := yt ca) (nw := zw_nest) (C := RX10) (As := [.int 6, .int (nI K)]) (rest := []) ⟨hx, hb, hml, hown, hts⟩ (m_X10_valuesOf l dC dI ca mo H.size ad hI hm th sm 6 K hk30) (cwV 2 hts gX10_bestNow_X10_valuesOf rfl rfl rfl (by decide +kernel) ⟨Nat.le_of_ble_eq_true rfl, Nat.le_of_ble_eq_true rfl⟩) (va_recv hK (y_one hMo) (ci := 10) rfl (q0 := 0) rfl) ⟨rfl, hMo, hH⟩ hK hN hX zw_nest_ok rfl hl.1 rfl (Nat.le_of_ble_eq_true rfl) dX10_bestNow_39 ⟨Nat.le_of_ble_eq_true rfl, Nat.le_of_ble_eq_true rfl⟩ hS (yA_mono (by have b0 := hS.1; omega)) (fun H locs hB1 oq1 hz1 hS => ?_)
  obtain ⟨hMo, hH⟩ := hB1
  refine lv_istore (lv' := [(6, .int 0), (5, .int 6), (4, .int 2), (3, .int 0), (2, .int 0), (0, .ref mo), (1, .int (nI K))]) hx hb dX10_bestNow_42 hl (by decide) rfl (fun ls hl => ?_)
  refine lv_iload hx hb dX10_bestNow_44 (lv_at hl 0 rfl) ?_
  refine lv_iload_n hx hb dX10_bestNow_46 rfl (lv_at hl 3 rfl) ?_
  refine lv_icmp_gt (tgt := 53) hx hb dX10_bestNow_47 (by decide) (fun c9 => absurd c9 (by decide)) (fun _ => ?_)
  refine lv_goto (tgt := 59) hx hb dX10_bestNow_50 (by decide) ?_
  refine lv_iinc (v := 3) (lv' := [(4, .int 3), (6, .int 0), (5, .int 6), (3, .int 0), (2, .int 0), (0, .ref mo), (1, .int (nI K))]) hx hb dX10_bestNow_59 hl (k := 2) rfl (by decide) (by decide) rfl (fun ls hl => ?_)
  refine lv_goto (tgt := 12) hx hb dX10_bestNow_62 (by decide) ?_
  refine lv_iload hx hb dX10_bestNow_12 (lv_at hl 0 rfl) ?_
  refine lv_bipush (v := 16) hx hb dX10_bestNow_14 (by decide) ?_
  refine lv_icmp_ge (tgt := 65) hx hb dX10_bestNow_16 (by decide) (fun c9 => absurd c9 (by decide)) (fun _ => ?_)
  refine lv_bipush (v := 30) hx hb dX10_bestNow_19 (by decide) ?_
  refine lv_iload hx hb dX10_bestNow_21 (lv_at hl 0 rfl) ?_
  refine lv_iconst (v := 4) hx hb dX10_bestNow_23 (by decide) ?_
  refine lv_idiv hx hb dX10_bestNow_24 (by decide) ?_
  refine y_num (b := 0) (by decide) ?_
  refine lv_imul hx hb dX10_bestNow_25 ?_
  refine y_num (b := 0) (by decide) ?_
  refine lv_iconst (v := 3) hx hb dX10_bestNow_26 (by decide) ?_
  refine lv_iload hx hb dX10_bestNow_27 (lv_at hl 0 rfl) ?_
  refine lv_iconst (v := 4) hx hb dX10_bestNow_29 (by decide) ?_
  refine lv_irem hx hb dX10_bestNow_30 (by decide) ?_
  refine y_num (b := 3) (by decide) ?_
  refine lv_imul hx hb dX10_bestNow_31 ?_
  refine y_num (b := 9) (by decide) ?_
  refine lv_iadd hx hb dX10_bestNow_32 ?_
  refine y_num (b := 9) (by decide) ?_
  refine lv_istore (lv' := [(5, .int 9), (4, .int 3), (6, .int 0), (3, .int 0), (2, .int 0), (0, .ref mo), (1, .int (nI K))]) hx hb dX10_bestNow_33 hl (by decide) rfl (fun ls hl => ?_)
  refine lv_aload_n hx hb dX10_bestNow_35 rfl (lv_at hl 5 rfl) ?_
  refine lv_iload hx hb dX10_bestNow_36 (lv_at hl 0 rfl) ?_
  refine lv_iload_n hx hb dX10_bestNow_38 rfl (lv_at hl 6 rfl) ?_
  refine y_cVi (D := (dC, dI)) (cl := vwCl) (tys := yt ca) (nw := zw_nest) (C := RX10) (As := [.int 9, .int (nI K)]) (rest := []) ⟨hx, hb, hml, hown, hts⟩ (m_X10_valuesOf l dC dI ca mo H.size ad hI hm th sm 9 K hk30) (cwV 2 hts gX10_bestNow_X10_valuesOf rfl rfl rfl (by decide +kernel) ⟨Nat.le_of_ble_eq_true rfl, Nat.le_of_ble_eq_true rfl⟩) (va_recv hK (y_one hMo) (ci := 10) rfl (q0 := 0) rfl) ⟨rfl, hMo, hH⟩ hK hN hX zw_nest_ok rfl hl.1 rfl (Nat.le_of_ble_eq_true rfl) dX10_bestNow_39 ⟨Nat.le_of_ble_eq_true rfl, Nat.le_of_ble_eq_true rfl⟩ hS (yA_mono (by have b0 := hS.1; omega)) (fun H locs hB1 oq1 hz1 hS => ?_)
  obtain ⟨hMo, hH⟩ := hB1
  refine lv_istore (lv' := [(6, .int 0), (5, .int 9), (4, .int 3), (3, .int 0), (2, .int 0), (0, .ref mo), (1, .int (nI K))]) hx hb dX10_bestNow_42 hl (by decide) rfl (fun ls hl => ?_)
  refine lv_iload hx hb dX10_bestNow_44 (lv_at hl 0 rfl) ?_
  refine lv_iload_n hx hb dX10_bestNow_46 rfl (lv_at hl 3 rfl) ?_
  refine lv_icmp_gt (tgt := 53) hx hb dX10_bestNow_47 (by decide) (fun c9 => absurd c9 (by decide)) (fun _ => ?_)
  refine lv_goto (tgt := 59) hx hb dX10_bestNow_50 (by decide) ?_
  refine lv_iinc (v := 4) (lv' := [(4, .int 4), (6, .int 0), (5, .int 9), (3, .int 0), (2, .int 0), (0, .ref mo), (1, .int (nI K))]) hx hb dX10_bestNow_59 hl (k := 2) rfl (by decide) (by decide) rfl (fun ls hl => ?_)
  refine lv_goto (tgt := 12) hx hb dX10_bestNow_62 (by decide) ?_
  refine lv_iload hx hb dX10_bestNow_12 (lv_at hl 0 rfl) ?_
  refine lv_bipush (v := 16) hx hb dX10_bestNow_14 (by decide) ?_
  refine lv_icmp_ge (tgt := 65) hx hb dX10_bestNow_16 (by decide) (fun c9 => absurd c9 (by decide)) (fun _ => ?_)
  refine lv_bipush (v := 30) hx hb dX10_bestNow_19 (by decide) ?_
  refine lv_iload hx hb dX10_bestNow_21 (lv_at hl 0 rfl) ?_
  refine lv_iconst (v := 4) hx hb dX10_bestNow_23 (by decide) ?_
  refine lv_idiv hx hb dX10_bestNow_24 (by decide) ?_
  refine y_num (b := 1) (by decide) ?_
  refine lv_imul hx hb dX10_bestNow_25 ?_
  refine y_num (b := 30) (by decide) ?_
  refine lv_iconst (v := 3) hx hb dX10_bestNow_26 (by decide) ?_
  refine lv_iload hx hb dX10_bestNow_27 (lv_at hl 0 rfl) ?_
  refine lv_iconst (v := 4) hx hb dX10_bestNow_29 (by decide) ?_
  refine lv_irem hx hb dX10_bestNow_30 (by decide) ?_
  refine y_num (b := 0) (by decide) ?_
  refine lv_imul hx hb dX10_bestNow_31 ?_
  refine y_num (b := 0) (by decide) ?_
  refine lv_iadd hx hb dX10_bestNow_32 ?_
  refine y_num (b := 30) (by decide) ?_
  refine lv_istore (lv' := [(5, .int 30), (4, .int 4), (6, .int 0), (3, .int 0), (2, .int 0), (0, .ref mo), (1, .int (nI K))]) hx hb dX10_bestNow_33 hl (by decide) rfl (fun ls hl => ?_)
  refine lv_aload_n hx hb dX10_bestNow_35 rfl (lv_at hl 5 rfl) ?_
  refine lv_iload hx hb dX10_bestNow_36 (lv_at hl 0 rfl) ?_
  refine lv_iload_n hx hb dX10_bestNow_38 rfl (lv_at hl 6 rfl) ?_
  refine y_cVi (D := (dC, dI)) (cl := vwCl) (tys := yt ca) (nw := zw_nest) (C := RX10) (As := [.int 30, .int (nI K)]) (rest := []) ⟨hx, hb, hml, hown, hts⟩ (m_X10_valuesOf l dC dI ca mo H.size ad hI hm th sm 30 K hk30) (cwV 2 hts gX10_bestNow_X10_valuesOf rfl rfl rfl (by decide +kernel) ⟨Nat.le_of_ble_eq_true rfl, Nat.le_of_ble_eq_true rfl⟩) (va_recv hK (y_one hMo) (ci := 10) rfl (q0 := 0) rfl) ⟨rfl, hMo, hH⟩ hK hN hX zw_nest_ok rfl hl.1 rfl (Nat.le_of_ble_eq_true rfl) dX10_bestNow_39 ⟨Nat.le_of_ble_eq_true rfl, Nat.le_of_ble_eq_true rfl⟩ hS (yA_mono (by have b0 := hS.1; omega)) (fun H locs hB1 oq1 hz1 hS => ?_)
  obtain ⟨hMo, hH⟩ := hB1
  refine lv_istore (lv' := [(6, .int 0), (5, .int 30), (4, .int 4), (3, .int 0), (2, .int 0), (0, .ref mo), (1, .int (nI K))]) hx hb dX10_bestNow_42 hl (by decide) rfl (fun ls hl => ?_)
  refine lv_iload hx hb dX10_bestNow_44 (lv_at hl 0 rfl) ?_
  refine lv_iload_n hx hb dX10_bestNow_46 rfl (lv_at hl 3 rfl) ?_
  refine lv_icmp_gt (tgt := 53) hx hb dX10_bestNow_47 (by decide) (fun c9 => absurd c9 (by decide)) (fun _ => ?_)
  refine lv_goto (tgt := 59) hx hb dX10_bestNow_50 (by decide) ?_
  refine lv_iinc (v := 5) (lv' := [(4, .int 5), (6, .int 0), (5, .int 30), (3, .int 0), (2, .int 0), (0, .ref mo), (1, .int (nI K))]) hx hb dX10_bestNow_59 hl (k := 2) rfl (by decide) (by decide) rfl (fun ls hl => ?_)
  refine lv_goto (tgt := 12) hx hb dX10_bestNow_62 (by decide) ?_
  refine lv_iload hx hb dX10_bestNow_12 (lv_at hl 0 rfl) ?_
  refine lv_bipush (v := 16) hx hb dX10_bestNow_14 (by decide) ?_
  refine lv_icmp_ge (tgt := 65) hx hb dX10_bestNow_16 (by decide) (fun c9 => absurd c9 (by decide)) (fun _ => ?_)
  refine lv_bipush (v := 30) hx hb dX10_bestNow_19 (by decide) ?_
  refine lv_iload hx hb dX10_bestNow_21 (lv_at hl 0 rfl) ?_
  refine lv_iconst (v := 4) hx hb dX10_bestNow_23 (by decide) ?_
  refine lv_idiv hx hb dX10_bestNow_24 (by decide) ?_
  refine y_num (b := 1) (by decide) ?_
  refine lv_imul hx hb dX10_bestNow_25 ?_
  refine y_num (b := 30) (by decide) ?_
  refine lv_iconst (v := 3) hx hb dX10_bestNow_26 (by decide) ?_
  refine lv_iload hx hb dX10_bestNow_27 (lv_at hl 0 rfl) ?_
  refine lv_iconst (v := 4) hx hb dX10_bestNow_29 (by decide) ?_
  refine lv_irem hx hb dX10_bestNow_30 (by decide) ?_
  refine y_num (b := 1) (by decide) ?_
  refine lv_imul hx hb dX10_bestNow_31 ?_
  refine y_num (b := 3) (by decide) ?_
  refine lv_iadd hx hb dX10_bestNow_32 ?_
  refine y_num (b := 33) (by decide) ?_
  refine lv_istore (lv' := [(5, .int 33), (4, .int 5), (6, .int 0), (3, .int 0), (2, .int 0), (0, .ref mo), (1, .int (nI K))]) hx hb dX10_bestNow_33 hl (by decide) rfl (fun ls hl => ?_)
  refine lv_aload_n hx hb dX10_bestNow_35 rfl (lv_at hl 5 rfl) ?_
  refine lv_iload hx hb dX10_bestNow_36 (lv_at hl 0 rfl) ?_
  refine lv_iload_n hx hb dX10_bestNow_38 rfl (lv_at hl 6 rfl) ?_
  refine y_cVi (D := (dC, dI)) (cl := vwCl) (tys := yt ca) (nw := zw_nest) (C := RX10) (As := [.int 33, .int (nI K)]) (rest := []) ⟨hx, hb, hml, hown, hts⟩ (m_X10_valuesOf l dC dI ca mo H.size ad hI hm th sm 33 K hk30) (cwV 2 hts gX10_bestNow_X10_valuesOf rfl rfl rfl (by decide +kernel) ⟨Nat.le_of_ble_eq_true rfl, Nat.le_of_ble_eq_true rfl⟩) (va_recv hK (y_one hMo) (ci := 10) rfl (q0 := 0) rfl) ⟨rfl, hMo, hH⟩ hK hN hX zw_nest_ok rfl hl.1 rfl (Nat.le_of_ble_eq_true rfl) dX10_bestNow_39 ⟨Nat.le_of_ble_eq_true rfl, Nat.le_of_ble_eq_true rfl⟩ hS (yA_mono (by have b0 := hS.1; omega)) (fun H locs hB1 oq1 hz1 hS => ?_)
  obtain ⟨hMo, hH⟩ := hB1
  refine lv_istore (lv' := [(6, .int 0), (5, .int 33), (4, .int 5), (3, .int 0), (2, .int 0), (0, .ref mo), (1, .int (nI K))]) hx hb dX10_bestNow_42 hl (by decide) rfl (fun ls hl => ?_)
  refine lv_iload hx hb dX10_bestNow_44 (lv_at hl 0 rfl) ?_
  refine lv_iload_n hx hb dX10_bestNow_46 rfl (lv_at hl 3 rfl) ?_
  refine lv_icmp_gt (tgt := 53) hx hb dX10_bestNow_47 (by decide) (fun c9 => absurd c9 (by decide)) (fun _ => ?_)
  refine lv_goto (tgt := 59) hx hb dX10_bestNow_50 (by decide) ?_
  refine lv_iinc (v := 6) (lv' := [(4, .int 6), (6, .int 0), (5, .int 33), (3, .int 0), (2, .int 0), (0, .ref mo), (1, .int (nI K))]) hx hb dX10_bestNow_59 hl (k := 2) rfl (by decide) (by decide) rfl (fun ls hl => ?_)
  refine lv_goto (tgt := 12) hx hb dX10_bestNow_62 (by decide) ?_
  refine lv_iload hx hb dX10_bestNow_12 (lv_at hl 0 rfl) ?_
  refine lv_bipush (v := 16) hx hb dX10_bestNow_14 (by decide) ?_
  refine lv_icmp_ge (tgt := 65) hx hb dX10_bestNow_16 (by decide) (fun c9 => absurd c9 (by decide)) (fun _ => ?_)
  refine lv_bipush (v := 30) hx hb dX10_bestNow_19 (by decide) ?_
  refine lv_iload hx hb dX10_bestNow_21 (lv_at hl 0 rfl) ?_
  refine lv_iconst (v := 4) hx hb dX10_bestNow_23 (by decide) ?_
  refine lv_idiv hx hb dX10_bestNow_24 (by decide) ?_
  refine y_num (b := 1) (by decide) ?_
  refine lv_imul hx hb dX10_bestNow_25 ?_
  refine y_num (b := 30) (by decide) ?_
  refine lv_iconst (v := 3) hx hb dX10_bestNow_26 (by decide) ?_
  refine lv_iload hx hb dX10_bestNow_27 (lv_at hl 0 rfl) ?_
  refine lv_iconst (v := 4) hx hb dX10_bestNow_29 (by decide) ?_
  refine lv_irem hx hb dX10_bestNow_30 (by decide) ?_
  refine y_num (b := 2) (by decide) ?_
  refine lv_imul hx hb dX10_bestNow_31 ?_
  refine y_num (b := 6) (by decide) ?_
  refine lv_iadd hx hb dX10_bestNow_32 ?_
  refine y_num (b := 36) (by decide) ?_
  refine lv_istore (lv' := [(5, .int 36), (4, .int 6), (6, .int 0), (3, .int 0), (2, .int 0), (0, .ref mo), (1, .int (nI K))]) hx hb dX10_bestNow_33 hl (by decide) rfl (fun ls hl => ?_)
  refine lv_aload_n hx hb dX10_bestNow_35 rfl (lv_at hl 5 rfl) ?_
  refine lv_iload hx hb dX10_bestNow_36 (lv_at hl 0 rfl) ?_
  refine lv_iload_n hx hb dX10_bestNow_38 rfl (lv_at hl 6 rfl) ?_
  refine y_cVi (D := (dC, dI)) (cl := vwCl) (tys := yt ca) (nw := zw_nest) (C := RX10) (As := [.int 36, .int (nI K)]) (rest := []) ⟨hx, hb, hml, hown, hts⟩ (m_X10_valuesOf l dC dI ca mo H.size ad hI hm th sm 36 K hk30) (cwV 2 hts gX10_bestNow_X10_valuesOf rfl rfl rfl (by decide +kernel) ⟨Nat.le_of_ble_eq_true rfl, Nat.le_of_ble_eq_true rfl⟩) (va_recv hK (y_one hMo) (ci := 10) rfl (q0 := 0) rfl) ⟨rfl, hMo, hH⟩ hK hN hX zw_nest_ok rfl hl.1 rfl (Nat.le_of_ble_eq_true rfl) dX10_bestNow_39 ⟨Nat.le_of_ble_eq_true rfl, Nat.le_of_ble_eq_true rfl⟩ hS (yA_mono (by have b0 := hS.1; omega)) (fun H locs hB1 oq1 hz1 hS => ?_)
  obtain ⟨hMo, hH⟩ := hB1
  refine lv_istore (lv' := [(6, .int 0), (5, .int 36), (4, .int 6), (3, .int 0), (2, .int 0), (0, .ref mo), (1, .int (nI K))]) hx hb dX10_bestNow_42 hl (by decide) rfl (fun ls hl => ?_)
  refine lv_iload hx hb dX10_bestNow_44 (lv_at hl 0 rfl) ?_
  refine lv_iload_n hx hb dX10_bestNow_46 rfl (lv_at hl 3 rfl) ?_
  refine lv_icmp_gt (tgt := 53) hx hb dX10_bestNow_47 (by decide) (fun c9 => absurd c9 (by decide)) (fun _ => ?_)
  refine lv_goto (tgt := 59) hx hb dX10_bestNow_50 (by decide) ?_
  refine lv_iinc (v := 7) (lv' := [(4, .int 7), (6, .int 0), (5, .int 36), (3, .int 0), (2, .int 0), (0, .ref mo), (1, .int (nI K))]) hx hb dX10_bestNow_59 hl (k := 2) rfl (by decide) (by decide) rfl (fun ls hl => ?_)
  refine lv_goto (tgt := 12) hx hb dX10_bestNow_62 (by decide) ?_
  refine lv_iload hx hb dX10_bestNow_12 (lv_at hl 0 rfl) ?_
  refine lv_bipush (v := 16) hx hb dX10_bestNow_14 (by decide) ?_
  refine lv_icmp_ge (tgt := 65) hx hb dX10_bestNow_16 (by decide) (fun c9 => absurd c9 (by decide)) (fun _ => ?_)
  refine lv_bipush (v := 30) hx hb dX10_bestNow_19 (by decide) ?_
  refine lv_iload hx hb dX10_bestNow_21 (lv_at hl 0 rfl) ?_
  refine lv_iconst (v := 4) hx hb dX10_bestNow_23 (by decide) ?_
  refine lv_idiv hx hb dX10_bestNow_24 (by decide) ?_
  refine y_num (b := 1) (by decide) ?_
  refine lv_imul hx hb dX10_bestNow_25 ?_
  refine y_num (b := 30) (by decide) ?_
  refine lv_iconst (v := 3) hx hb dX10_bestNow_26 (by decide) ?_
  refine lv_iload hx hb dX10_bestNow_27 (lv_at hl 0 rfl) ?_
  refine lv_iconst (v := 4) hx hb dX10_bestNow_29 (by decide) ?_
  refine lv_irem hx hb dX10_bestNow_30 (by decide) ?_
  refine y_num (b := 3) (by decide) ?_
  refine lv_imul hx hb dX10_bestNow_31 ?_
  refine y_num (b := 9) (by decide) ?_
  refine lv_iadd hx hb dX10_bestNow_32 ?_
  refine y_num (b := 39) (by decide) ?_
  refine lv_istore (lv' := [(5, .int 39), (4, .int 7), (6, .int 0), (3, .int 0), (2, .int 0), (0, .ref mo), (1, .int (nI K))]) hx hb dX10_bestNow_33 hl (by decide) rfl (fun ls hl => ?_)
  refine lv_aload_n hx hb dX10_bestNow_35 rfl (lv_at hl 5 rfl) ?_
  refine lv_iload hx hb dX10_bestNow_36 (lv_at hl 0 rfl) ?_
  refine lv_iload_n hx hb dX10_bestNow_38 rfl (lv_at hl 6 rfl) ?_
  refine y_cVi (D := (dC, dI)) (cl := vwCl) (tys := yt ca) (nw := zw_nest) (C := RX10) (As := [.int 39, .int (nI K)]) (rest := []) ⟨hx, hb, hml, hown, hts⟩ (m_X10_valuesOf l dC dI ca mo H.size ad hI hm th sm 39 K hk30) (cwV 2 hts gX10_bestNow_X10_valuesOf rfl rfl rfl (by decide +kernel) ⟨Nat.le_of_ble_eq_true rfl, Nat.le_of_ble_eq_true rfl⟩) (va_recv hK (y_one hMo) (ci := 10) rfl (q0 := 0) rfl) ⟨rfl, hMo, hH⟩ hK hN hX zw_nest_ok rfl hl.1 rfl (Nat.le_of_ble_eq_true rfl) dX10_bestNow_39 ⟨Nat.le_of_ble_eq_true rfl, Nat.le_of_ble_eq_true rfl⟩ hS (yA_mono (by have b0 := hS.1; omega)) (fun H locs hB1 oq1 hz1 hS => ?_)
  obtain ⟨hMo, hH⟩ := hB1
  refine lv_istore (lv' := [(6, .int 0), (5, .int 39), (4, .int 7), (3, .int 0), (2, .int 0), (0, .ref mo), (1, .int (nI K))]) hx hb dX10_bestNow_42 hl (by decide) rfl (fun ls hl => ?_)
  refine lv_iload hx hb dX10_bestNow_44 (lv_at hl 0 rfl) ?_
  refine lv_iload_n hx hb dX10_bestNow_46 rfl (lv_at hl 3 rfl) ?_
  refine lv_icmp_gt (tgt := 53) hx hb dX10_bestNow_47 (by decide) (fun c9 => absurd c9 (by decide)) (fun _ => ?_)
  refine lv_goto (tgt := 59) hx hb dX10_bestNow_50 (by decide) ?_
  refine lv_iinc (v := 8) (lv' := [(4, .int 8), (6, .int 0), (5, .int 39), (3, .int 0), (2, .int 0), (0, .ref mo), (1, .int (nI K))]) hx hb dX10_bestNow_59 hl (k := 2) rfl (by decide) (by decide) rfl (fun ls hl => ?_)
  refine lv_goto (tgt := 12) hx hb dX10_bestNow_62 (by decide) ?_
  refine lv_iload hx hb dX10_bestNow_12 (lv_at hl 0 rfl) ?_
  refine lv_bipush (v := 16) hx hb dX10_bestNow_14 (by decide) ?_
  refine lv_icmp_ge (tgt := 65) hx hb dX10_bestNow_16 (by decide) (fun c9 => absurd c9 (by decide)) (fun _ => ?_)
  refine lv_bipush (v := 30) hx hb dX10_bestNow_19 (by decide) ?_
  refine lv_iload hx hb dX10_bestNow_21 (lv_at hl 0 rfl) ?_
  refine lv_iconst (v := 4) hx hb dX10_bestNow_23 (by decide) ?_
  refine lv_idiv hx hb dX10_bestNow_24 (by decide) ?_
  refine y_num (b := 2) (by decide) ?_
  refine lv_imul hx hb dX10_bestNow_25 ?_
  refine y_num (b := 60) (by decide) ?_
  refine lv_iconst (v := 3) hx hb dX10_bestNow_26 (by decide) ?_
  refine lv_iload hx hb dX10_bestNow_27 (lv_at hl 0 rfl) ?_
  refine lv_iconst (v := 4) hx hb dX10_bestNow_29 (by decide) ?_
  refine lv_irem hx hb dX10_bestNow_30 (by decide) ?_
  refine y_num (b := 0) (by decide) ?_
  refine lv_imul hx hb dX10_bestNow_31 ?_
  refine y_num (b := 0) (by decide) ?_
  refine lv_iadd hx hb dX10_bestNow_32 ?_
  refine y_num (b := 60) (by decide) ?_
  refine lv_istore (lv' := [(5, .int 60), (4, .int 8), (6, .int 0), (3, .int 0), (2, .int 0), (0, .ref mo), (1, .int (nI K))]) hx hb dX10_bestNow_33 hl (by decide) rfl (fun ls hl => ?_)
  refine lv_aload_n hx hb dX10_bestNow_35 rfl (lv_at hl 5 rfl) ?_
  refine lv_iload hx hb dX10_bestNow_36 (lv_at hl 0 rfl) ?_
  refine lv_iload_n hx hb dX10_bestNow_38 rfl (lv_at hl 6 rfl) ?_
  refine y_cVi (D := (dC, dI)) (cl := vwCl) (tys := yt ca) (nw := zw_nest) (C := RX10) (As := [.int 60, .int (nI K)]) (rest := []) ⟨hx, hb, hml, hown, hts⟩ (m_X10_valuesOf l dC dI ca mo H.size ad hI hm th sm 60 K hk30) (cwV 2 hts gX10_bestNow_X10_valuesOf rfl rfl rfl (by decide +kernel) ⟨Nat.le_of_ble_eq_true rfl, Nat.le_of_ble_eq_true rfl⟩) (va_recv hK (y_one hMo) (ci := 10) rfl (q0 := 0) rfl) ⟨rfl, hMo, hH⟩ hK hN hX zw_nest_ok rfl hl.1 rfl (Nat.le_of_ble_eq_true rfl) dX10_bestNow_39 ⟨Nat.le_of_ble_eq_true rfl, Nat.le_of_ble_eq_true rfl⟩ hS (yA_mono (by have b0 := hS.1; omega)) (fun H locs hB1 oq1 hz1 hS => ?_)
  obtain ⟨hMo, hH⟩ := hB1
  refine lv_istore (lv' := [(6, .int 0), (5, .int 60), (4, .int 8), (3, .int 0), (2, .int 0), (0, .ref mo), (1, .int (nI K))]) hx hb dX10_bestNow_42 hl (by decide) rfl (fun ls hl => ?_)
  refine lv_iload hx hb dX10_bestNow_44 (lv_at hl 0 rfl) ?_
  refine lv_iload_n hx hb dX10_bestNow_46 rfl (lv_at hl 3 rfl) ?_
  refine lv_icmp_gt (tgt := 53) hx hb dX10_bestNow_47 (by decide) (fun c9 => absurd c9 (by decide)) (fun _ => ?_)
  refine lv_goto (tgt := 59) hx hb dX10_bestNow_50 (by decide) ?_
  refine lv_iinc (v := 9) (lv' := [(4, .int 9), (6, .int 0), (5, .int 60), (3, .int 0), (2, .int 0), (0, .ref mo), (1, .int (nI K))]) hx hb dX10_bestNow_59 hl (k := 2) rfl (by decide) (by decide) rfl (fun ls hl => ?_)
  refine lv_goto (tgt := 12) hx hb dX10_bestNow_62 (by decide) ?_
  refine lv_iload hx hb dX10_bestNow_12 (lv_at hl 0 rfl) ?_
  refine lv_bipush (v := 16) hx hb dX10_bestNow_14 (by decide) ?_
  refine lv_icmp_ge (tgt := 65) hx hb dX10_bestNow_16 (by decide) (fun c9 => absurd c9 (by decide)) (fun _ => ?_)
  refine lv_bipush (v := 30) hx hb dX10_bestNow_19 (by decide) ?_
  refine lv_iload hx hb dX10_bestNow_21 (lv_at hl 0 rfl) ?_
  refine lv_iconst (v := 4) hx hb dX10_bestNow_23 (by decide) ?_
  refine lv_idiv hx hb dX10_bestNow_24 (by decide) ?_
  refine y_num (b := 2) (by decide) ?_
  refine lv_imul hx hb dX10_bestNow_25 ?_
  refine y_num (b := 60) (by decide) ?_
  refine lv_iconst (v := 3) hx hb dX10_bestNow_26 (by decide) ?_
  refine lv_iload hx hb dX10_bestNow_27 (lv_at hl 0 rfl) ?_
  refine lv_iconst (v := 4) hx hb dX10_bestNow_29 (by decide) ?_
  refine lv_irem hx hb dX10_bestNow_30 (by decide) ?_
  refine y_num (b := 1) (by decide) ?_
  refine lv_imul hx hb dX10_bestNow_31 ?_
  refine y_num (b := 3) (by decide) ?_
  refine lv_iadd hx hb dX10_bestNow_32 ?_
  refine y_num (b := 63) (by decide) ?_
  refine lv_istore (lv' := [(5, .int 63), (4, .int 9), (6, .int 0), (3, .int 0), (2, .int 0), (0, .ref mo), (1, .int (nI K))]) hx hb dX10_bestNow_33 hl (by decide) rfl (fun ls hl => ?_)
  refine lv_aload_n hx hb dX10_bestNow_35 rfl (lv_at hl 5 rfl) ?_
  refine lv_iload hx hb dX10_bestNow_36 (lv_at hl 0 rfl) ?_
  refine lv_iload_n hx hb dX10_bestNow_38 rfl (lv_at hl 6 rfl) ?_
  refine y_cVi (D := (dC, dI)) (cl := vwCl) (tys := yt ca) (nw := zw_nest) (C := RX10) (As := [.int 63, .int (nI K)]) (rest := []) ⟨hx, hb, hml, hown, hts⟩ (m_X10_valuesOf l dC dI ca mo H.size ad hI hm th sm 63 K hk30) (cwV 2 hts gX10_bestNow_X10_valuesOf rfl rfl rfl (by decide +kernel) ⟨Nat.le_of_ble_eq_true rfl, Nat.le_of_ble_eq_true rfl⟩) (va_recv hK (y_one hMo) (ci := 10) rfl (q0 := 0) rfl) ⟨rfl, hMo, hH⟩ hK hN hX zw_nest_ok rfl hl.1 rfl (Nat.le_of_ble_eq_true rfl) dX10_bestNow_39 ⟨Nat.le_of_ble_eq_true rfl, Nat.le_of_ble_eq_true rfl⟩ hS (yA_mono (by have b0 := hS.1; omega)) (fun H locs hB1 oq1 hz1 hS => ?_)
  obtain ⟨hMo, hH⟩ := hB1
  refine lv_istore (lv' := [(6, .int 0), (5, .int 63), (4, .int 9), (3, .int 0), (2, .int 0), (0, .ref mo), (1, .int (nI K))]) hx hb dX10_bestNow_42 hl (by decide) rfl (fun ls hl => ?_)
  refine lv_iload hx hb dX10_bestNow_44 (lv_at hl 0 rfl) ?_
  refine lv_iload_n hx hb dX10_bestNow_46 rfl (lv_at hl 3 rfl) ?_
  refine lv_icmp_gt (tgt := 53) hx hb dX10_bestNow_47 (by decide) (fun c9 => absurd c9 (by decide)) (fun _ => ?_)
  refine lv_goto (tgt := 59) hx hb dX10_bestNow_50 (by decide) ?_
  refine lv_iinc (v := 10) (lv' := [(4, .int 10), (6, .int 0), (5, .int 63), (3, .int 0), (2, .int 0), (0, .ref mo), (1, .int (nI K))]) hx hb dX10_bestNow_59 hl (k := 2) rfl (by decide) (by decide) rfl (fun ls hl => ?_)
  refine lv_goto (tgt := 12) hx hb dX10_bestNow_62 (by decide) ?_
  refine lv_iload hx hb dX10_bestNow_12 (lv_at hl 0 rfl) ?_
  refine lv_bipush (v := 16) hx hb dX10_bestNow_14 (by decide) ?_
  refine lv_icmp_ge (tgt := 65) hx hb dX10_bestNow_16 (by decide) (fun c9 => absurd c9 (by decide)) (fun _ => ?_)
  refine lv_bipush (v := 30) hx hb dX10_bestNow_19 (by decide) ?_
  refine lv_iload hx hb dX10_bestNow_21 (lv_at hl 0 rfl) ?_
  refine lv_iconst (v := 4) hx hb dX10_bestNow_23 (by decide) ?_
  refine lv_idiv hx hb dX10_bestNow_24 (by decide) ?_
  refine y_num (b := 2) (by decide) ?_
  refine lv_imul hx hb dX10_bestNow_25 ?_
  refine y_num (b := 60) (by decide) ?_
  refine lv_iconst (v := 3) hx hb dX10_bestNow_26 (by decide) ?_
  refine lv_iload hx hb dX10_bestNow_27 (lv_at hl 0 rfl) ?_
  refine lv_iconst (v := 4) hx hb dX10_bestNow_29 (by decide) ?_
  refine lv_irem hx hb dX10_bestNow_30 (by decide) ?_
  refine y_num (b := 2) (by decide) ?_
  refine lv_imul hx hb dX10_bestNow_31 ?_
  refine y_num (b := 6) (by decide) ?_
  refine lv_iadd hx hb dX10_bestNow_32 ?_
  refine y_num (b := 66) (by decide) ?_
  refine lv_istore (lv' := [(5, .int 66), (4, .int 10), (6, .int 0), (3, .int 0), (2, .int 0), (0, .ref mo), (1, .int (nI K))]) hx hb dX10_bestNow_33 hl (by decide) rfl (fun ls hl => ?_)
  refine lv_aload_n hx hb dX10_bestNow_35 rfl (lv_at hl 5 rfl) ?_
  refine lv_iload hx hb dX10_bestNow_36 (lv_at hl 0 rfl) ?_
  refine lv_iload_n hx hb dX10_bestNow_38 rfl (lv_at hl 6 rfl) ?_
  refine y_cVi (D := (dC, dI)) (cl := vwCl) (tys := yt ca) (nw := zw_nest) (C := RX10) (As := [.int 66, .int (nI K)]) (rest := []) ⟨hx, hb, hml, hown, hts⟩ (m_X10_valuesOf l dC dI ca mo H.size ad hI hm th sm 66 K hk30) (cwV 2 hts gX10_bestNow_X10_valuesOf rfl rfl rfl (by decide +kernel) ⟨Nat.le_of_ble_eq_true rfl, Nat.le_of_ble_eq_true rfl⟩) (va_recv hK (y_one hMo) (ci := 10) rfl (q0 := 0) rfl) ⟨rfl, hMo, hH⟩ hK hN hX zw_nest_ok rfl hl.1 rfl (Nat.le_of_ble_eq_true rfl) dX10_bestNow_39 ⟨Nat.le_of_ble_eq_true rfl, Nat.le_of_ble_eq_true rfl⟩ hS (yA_mono (by have b0 := hS.1; omega)) (fun H locs hB1 oq1 hz1 hS => ?_)
  obtain ⟨hMo, hH⟩ := hB1
  refine lv_istore (lv' := [(6, .int 0), (5, .int 66), (4, .int 10), (3, .int 0), (2, .int 0), (0, .ref mo), (1, .int (nI K))]) hx hb dX10_bestNow_42 hl (by decide) rfl (fun ls hl => ?_)
  refine lv_iload hx hb dX10_bestNow_44 (lv_at hl 0 rfl) ?_
  refine lv_iload_n hx hb dX10_bestNow_46 rfl (lv_at hl 3 rfl) ?_
  refine lv_icmp_gt (tgt := 53) hx hb dX10_bestNow_47 (by decide) (fun c9 => absurd c9 (by decide)) (fun _ => ?_)
  refine lv_goto (tgt := 59) hx hb dX10_bestNow_50 (by decide) ?_
  refine lv_iinc (v := 11) (lv' := [(4, .int 11), (6, .int 0), (5, .int 66), (3, .int 0), (2, .int 0), (0, .ref mo), (1, .int (nI K))]) hx hb dX10_bestNow_59 hl (k := 2) rfl (by decide) (by decide) rfl (fun ls hl => ?_)
  refine lv_goto (tgt := 12) hx hb dX10_bestNow_62 (by decide) ?_
  refine lv_iload hx hb dX10_bestNow_12 (lv_at hl 0 rfl) ?_
  refine lv_bipush (v := 16) hx hb dX10_bestNow_14 (by decide) ?_
  refine lv_icmp_ge (tgt := 65) hx hb dX10_bestNow_16 (by decide) (fun c9 => absurd c9 (by decide)) (fun _ => ?_)
  refine lv_bipush (v := 30) hx hb dX10_bestNow_19 (by decide) ?_
  refine lv_iload hx hb dX10_bestNow_21 (lv_at hl 0 rfl) ?_
  refine lv_iconst (v := 4) hx hb dX10_bestNow_23 (by decide) ?_
  refine lv_idiv hx hb dX10_bestNow_24 (by decide) ?_
  refine y_num (b := 2) (by decide) ?_
  refine lv_imul hx hb dX10_bestNow_25 ?_
  refine y_num (b := 60) (by decide) ?_
  refine lv_iconst (v := 3) hx hb dX10_bestNow_26 (by decide) ?_
  refine lv_iload hx hb dX10_bestNow_27 (lv_at hl 0 rfl) ?_
  refine lv_iconst (v := 4) hx hb dX10_bestNow_29 (by decide) ?_
  refine lv_irem hx hb dX10_bestNow_30 (by decide) ?_
  refine y_num (b := 3) (by decide) ?_
  refine lv_imul hx hb dX10_bestNow_31 ?_
  refine y_num (b := 9) (by decide) ?_
  refine lv_iadd hx hb dX10_bestNow_32 ?_
  refine y_num (b := 69) (by decide) ?_
  refine lv_istore (lv' := [(5, .int 69), (4, .int 11), (6, .int 0), (3, .int 0), (2, .int 0), (0, .ref mo), (1, .int (nI K))]) hx hb dX10_bestNow_33 hl (by decide) rfl (fun ls hl => ?_)
  refine lv_aload_n hx hb dX10_bestNow_35 rfl (lv_at hl 5 rfl) ?_
  refine lv_iload hx hb dX10_bestNow_36 (lv_at hl 0 rfl) ?_
  refine lv_iload_n hx hb dX10_bestNow_38 rfl (lv_at hl 6 rfl) ?_
  refine y_cVi (D := (dC, dI)) (cl := vwCl) (tys := yt ca) (nw := zw_nest) (C := RX10) (As := [.int 69, .int (nI K)]) (rest := []) ⟨hx, hb, hml, hown, hts⟩ (m_X10_valuesOf l dC dI ca mo H.size ad hI hm th sm 69 K hk30) (cwV 2 hts gX10_bestNow_X10_valuesOf rfl rfl rfl (by decide +kernel) ⟨Nat.le_of_ble_eq_true rfl, Nat.le_of_ble_eq_true rfl⟩) (va_recv hK (y_one hMo) (ci := 10) rfl (q0 := 0) rfl) ⟨rfl, hMo, hH⟩ hK hN hX zw_nest_ok rfl hl.1 rfl (Nat.le_of_ble_eq_true rfl) dX10_bestNow_39 ⟨Nat.le_of_ble_eq_true rfl, Nat.le_of_ble_eq_true rfl⟩ hS (yA_mono (by have b0 := hS.1; omega)) (fun H locs hB1 oq1 hz1 hS => ?_)
  obtain ⟨hMo, hH⟩ := hB1
  refine lv_istore (lv' := [(6, .int 0), (5, .int 69), (4, .int 11), (3, .int 0), (2, .int 0), (0, .ref mo), (1, .int (nI K))]) hx hb dX10_bestNow_42 hl (by decide) rfl (fun ls hl => ?_)
  refine lv_iload hx hb dX10_bestNow_44 (lv_at hl 0 rfl) ?_
  refine lv_iload_n hx hb dX10_bestNow_46 rfl (lv_at hl 3 rfl) ?_
  refine lv_icmp_gt (tgt := 53) hx hb dX10_bestNow_47 (by decide) (fun c9 => absurd c9 (by decide)) (fun _ => ?_)
  refine lv_goto (tgt := 59) hx hb dX10_bestNow_50 (by decide) ?_
  refine lv_iinc (v := 12) (lv' := [(4, .int 12), (6, .int 0), (5, .int 69), (3, .int 0), (2, .int 0), (0, .ref mo), (1, .int (nI K))]) hx hb dX10_bestNow_59 hl (k := 2) rfl (by decide) (by decide) rfl (fun ls hl => ?_)
  refine lv_goto (tgt := 12) hx hb dX10_bestNow_62 (by decide) ?_
  refine lv_iload hx hb dX10_bestNow_12 (lv_at hl 0 rfl) ?_
  refine lv_bipush (v := 16) hx hb dX10_bestNow_14 (by decide) ?_
  refine lv_icmp_ge (tgt := 65) hx hb dX10_bestNow_16 (by decide) (fun c9 => absurd c9 (by decide)) (fun _ => ?_)
  refine lv_bipush (v := 30) hx hb dX10_bestNow_19 (by decide) ?_
  refine lv_iload hx hb dX10_bestNow_21 (lv_at hl 0 rfl) ?_
  refine lv_iconst (v := 4) hx hb dX10_bestNow_23 (by decide) ?_
  refine lv_idiv hx hb dX10_bestNow_24 (by decide) ?_
  refine y_num (b := 3) (by decide) ?_
  refine lv_imul hx hb dX10_bestNow_25 ?_
  refine y_num (b := 90) (by decide) ?_
  refine lv_iconst (v := 3) hx hb dX10_bestNow_26 (by decide) ?_
  refine lv_iload hx hb dX10_bestNow_27 (lv_at hl 0 rfl) ?_
  refine lv_iconst (v := 4) hx hb dX10_bestNow_29 (by decide) ?_
  refine lv_irem hx hb dX10_bestNow_30 (by decide) ?_
  refine y_num (b := 0) (by decide) ?_
  refine lv_imul hx hb dX10_bestNow_31 ?_
  refine y_num (b := 0) (by decide) ?_
  refine lv_iadd hx hb dX10_bestNow_32 ?_
  refine y_num (b := 90) (by decide) ?_
  refine lv_istore (lv' := [(5, .int 90), (4, .int 12), (6, .int 0), (3, .int 0), (2, .int 0), (0, .ref mo), (1, .int (nI K))]) hx hb dX10_bestNow_33 hl (by decide) rfl (fun ls hl => ?_)
  refine lv_aload_n hx hb dX10_bestNow_35 rfl (lv_at hl 5 rfl) ?_
  refine lv_iload hx hb dX10_bestNow_36 (lv_at hl 0 rfl) ?_
  refine lv_iload_n hx hb dX10_bestNow_38 rfl (lv_at hl 6 rfl) ?_
  refine y_cVi (D := (dC, dI)) (cl := vwCl) (tys := yt ca) (nw := zw_nest) (C := RX10) (As := [.int 90, .int (nI K)]) (rest := []) ⟨hx, hb, hml, hown, hts⟩ (m_X10_valuesOf l dC dI ca mo H.size ad hI hm th sm 90 K hk30) (cwV 2 hts gX10_bestNow_X10_valuesOf rfl rfl rfl (by decide +kernel) ⟨Nat.le_of_ble_eq_true rfl, Nat.le_of_ble_eq_true rfl⟩) (va_recv hK (y_one hMo) (ci := 10) rfl (q0 := 0) rfl) ⟨rfl, hMo, hH⟩ hK hN hX zw_nest_ok rfl hl.1 rfl (Nat.le_of_ble_eq_true rfl) dX10_bestNow_39 ⟨Nat.le_of_ble_eq_true rfl, Nat.le_of_ble_eq_true rfl⟩ hS (yA_mono (by have b0 := hS.1; omega)) (fun H locs hB1 oq1 hz1 hS => ?_)
  obtain ⟨hMo, hH⟩ := hB1
  refine lv_istore (lv' := [(6, .int 0), (5, .int 90), (4, .int 12), (3, .int 0), (2, .int 0), (0, .ref mo), (1, .int (nI K))]) hx hb dX10_bestNow_42 hl (by decide) rfl (fun ls hl => ?_)
  refine lv_iload hx hb dX10_bestNow_44 (lv_at hl 0 rfl) ?_
  refine lv_iload_n hx hb dX10_bestNow_46 rfl (lv_at hl 3 rfl) ?_
  refine lv_icmp_gt (tgt := 53) hx hb dX10_bestNow_47 (by decide) (fun c9 => absurd c9 (by decide)) (fun _ => ?_)
  refine lv_goto (tgt := 59) hx hb dX10_bestNow_50 (by decide) ?_
  refine lv_iinc (v := 13) (lv' := [(4, .int 13), (6, .int 0), (5, .int 90), (3, .int 0), (2, .int 0), (0, .ref mo), (1, .int (nI K))]) hx hb dX10_bestNow_59 hl (k := 2) rfl (by decide) (by decide) rfl (fun ls hl => ?_)
  refine lv_goto (tgt := 12) hx hb dX10_bestNow_62 (by decide) ?_
  refine lv_iload hx hb dX10_bestNow_12 (lv_at hl 0 rfl) ?_
  refine lv_bipush (v := 16) hx hb dX10_bestNow_14 (by decide) ?_
  refine lv_icmp_ge (tgt := 65) hx hb dX10_bestNow_16 (by decide) (fun c9 => absurd c9 (by decide)) (fun _ => ?_)
  refine lv_bipush (v := 30) hx hb dX10_bestNow_19 (by decide) ?_
  refine lv_iload hx hb dX10_bestNow_21 (lv_at hl 0 rfl) ?_
  refine lv_iconst (v := 4) hx hb dX10_bestNow_23 (by decide) ?_
  refine lv_idiv hx hb dX10_bestNow_24 (by decide) ?_
  refine y_num (b := 3) (by decide) ?_
  refine lv_imul hx hb dX10_bestNow_25 ?_
  refine y_num (b := 90) (by decide) ?_
  refine lv_iconst (v := 3) hx hb dX10_bestNow_26 (by decide) ?_
  refine lv_iload hx hb dX10_bestNow_27 (lv_at hl 0 rfl) ?_
  refine lv_iconst (v := 4) hx hb dX10_bestNow_29 (by decide) ?_
  refine lv_irem hx hb dX10_bestNow_30 (by decide) ?_
  refine y_num (b := 1) (by decide) ?_
  refine lv_imul hx hb dX10_bestNow_31 ?_
  refine y_num (b := 3) (by decide) ?_
  refine lv_iadd hx hb dX10_bestNow_32 ?_
  refine y_num (b := 93) (by decide) ?_
  refine lv_istore (lv' := [(5, .int 93), (4, .int 13), (6, .int 0), (3, .int 0), (2, .int 0), (0, .ref mo), (1, .int (nI K))]) hx hb dX10_bestNow_33 hl (by decide) rfl (fun ls hl => ?_)
  refine lv_aload_n hx hb dX10_bestNow_35 rfl (lv_at hl 5 rfl) ?_
  refine lv_iload hx hb dX10_bestNow_36 (lv_at hl 0 rfl) ?_
  refine lv_iload_n hx hb dX10_bestNow_38 rfl (lv_at hl 6 rfl) ?_
  refine y_cVi (D := (dC, dI)) (cl := vwCl) (tys := yt ca) (nw := zw_nest) (C := RX10) (As := [.int 93, .int (nI K)]) (rest := []) ⟨hx, hb, hml, hown, hts⟩ (m_X10_valuesOf l dC dI ca mo H.size ad hI hm th sm 93 K hk30) (cwV 2 hts gX10_bestNow_X10_valuesOf rfl rfl rfl (by decide +kernel) ⟨Nat.le_of_ble_eq_true rfl, Nat.le_of_ble_eq_true rfl⟩) (va_recv hK (y_one hMo) (ci := 10) rfl (q0 := 0) rfl) ⟨rfl, hMo, hH⟩ hK hN hX zw_nest_ok rfl hl.1 rfl (Nat.le_of_ble_eq_true rfl) dX10_bestNow_39 ⟨Nat.le_of_ble_eq_true rfl, Nat.le_of_ble_eq_true rfl⟩ hS (yA_mono (by have b0 := hS.1; omega)) (fun H locs hB1 oq1 hz1 hS => ?_)
  obtain ⟨hMo, hH⟩ := hB1
  refine lv_istore (lv' := [(6, .int 0), (5, .int 93), (4, .int 13), (3, .int 0), (2, .int 0), (0, .ref mo), (1, .int (nI K))]) hx hb dX10_bestNow_42 hl (by decide) rfl (fun ls hl => ?_)
  refine lv_iload hx hb dX10_bestNow_44 (lv_at hl 0 rfl) ?_
  refine lv_iload_n hx hb dX10_bestNow_46 rfl (lv_at hl 3 rfl) ?_
  refine lv_icmp_gt (tgt := 53) hx hb dX10_bestNow_47 (by decide) (fun c9 => absurd c9 (by decide)) (fun _ => ?_)
  refine lv_goto (tgt := 59) hx hb dX10_bestNow_50 (by decide) ?_
  refine lv_iinc (v := 14) (lv' := [(4, .int 14), (6, .int 0), (5, .int 93), (3, .int 0), (2, .int 0), (0, .ref mo), (1, .int (nI K))]) hx hb dX10_bestNow_59 hl (k := 2) rfl (by decide) (by decide) rfl (fun ls hl => ?_)
  refine lv_goto (tgt := 12) hx hb dX10_bestNow_62 (by decide) ?_
  refine lv_iload hx hb dX10_bestNow_12 (lv_at hl 0 rfl) ?_
  refine lv_bipush (v := 16) hx hb dX10_bestNow_14 (by decide) ?_
  refine lv_icmp_ge (tgt := 65) hx hb dX10_bestNow_16 (by decide) (fun c9 => absurd c9 (by decide)) (fun _ => ?_)
  refine lv_bipush (v := 30) hx hb dX10_bestNow_19 (by decide) ?_
  refine lv_iload hx hb dX10_bestNow_21 (lv_at hl 0 rfl) ?_
  refine lv_iconst (v := 4) hx hb dX10_bestNow_23 (by decide) ?_
  refine lv_idiv hx hb dX10_bestNow_24 (by decide) ?_
  refine y_num (b := 3) (by decide) ?_
  refine lv_imul hx hb dX10_bestNow_25 ?_
  refine y_num (b := 90) (by decide) ?_
  refine lv_iconst (v := 3) hx hb dX10_bestNow_26 (by decide) ?_
  refine lv_iload hx hb dX10_bestNow_27 (lv_at hl 0 rfl) ?_
  refine lv_iconst (v := 4) hx hb dX10_bestNow_29 (by decide) ?_
  refine lv_irem hx hb dX10_bestNow_30 (by decide) ?_
  refine y_num (b := 2) (by decide) ?_
  refine lv_imul hx hb dX10_bestNow_31 ?_
  refine y_num (b := 6) (by decide) ?_
  refine lv_iadd hx hb dX10_bestNow_32 ?_
  refine y_num (b := 96) (by decide) ?_
  refine lv_istore (lv' := [(5, .int 96), (4, .int 14), (6, .int 0), (3, .int 0), (2, .int 0), (0, .ref mo), (1, .int (nI K))]) hx hb dX10_bestNow_33 hl (by decide) rfl (fun ls hl => ?_)
  refine lv_aload_n hx hb dX10_bestNow_35 rfl (lv_at hl 5 rfl) ?_
  refine lv_iload hx hb dX10_bestNow_36 (lv_at hl 0 rfl) ?_
  refine lv_iload_n hx hb dX10_bestNow_38 rfl (lv_at hl 6 rfl) ?_
  refine y_cVi (D := (dC, dI)) (cl := vwCl) (tys := yt ca) (nw := zw_nest) (C := RX10) (As := [.int 96, .int (nI K)]) (rest := []) ⟨hx, hb, hml, hown, hts⟩ (m_X10_valuesOf l dC dI ca mo H.size ad hI hm th sm 96 K hk30) (cwV 2 hts gX10_bestNow_X10_valuesOf rfl rfl rfl (by decide +kernel) ⟨Nat.le_of_ble_eq_true rfl, Nat.le_of_ble_eq_true rfl⟩) (va_recv hK (y_one hMo) (ci := 10) rfl (q0 := 0) rfl) ⟨rfl, hMo, hH⟩ hK hN hX zw_nest_ok rfl hl.1 rfl (Nat.le_of_ble_eq_true rfl) dX10_bestNow_39 ⟨Nat.le_of_ble_eq_true rfl, Nat.le_of_ble_eq_true rfl⟩ hS (yA_mono (by have b0 := hS.1; omega)) (fun H locs hB1 oq1 hz1 hS => ?_)
  obtain ⟨hMo, hH⟩ := hB1
  refine lv_istore (lv' := [(6, .int 0), (5, .int 96), (4, .int 14), (3, .int 0), (2, .int 0), (0, .ref mo), (1, .int (nI K))]) hx hb dX10_bestNow_42 hl (by decide) rfl (fun ls hl => ?_)
  refine lv_iload hx hb dX10_bestNow_44 (lv_at hl 0 rfl) ?_
  refine lv_iload_n hx hb dX10_bestNow_46 rfl (lv_at hl 3 rfl) ?_
  refine lv_icmp_gt (tgt := 53) hx hb dX10_bestNow_47 (by decide) (fun c9 => absurd c9 (by decide)) (fun _ => ?_)
  refine lv_goto (tgt := 59) hx hb dX10_bestNow_50 (by decide) ?_
  refine lv_iinc (v := 15) (lv' := [(4, .int 15), (6, .int 0), (5, .int 96), (3, .int 0), (2, .int 0), (0, .ref mo), (1, .int (nI K))]) hx hb dX10_bestNow_59 hl (k := 2) rfl (by decide) (by decide) rfl (fun ls hl => ?_)
  refine lv_goto (tgt := 12) hx hb dX10_bestNow_62 (by decide) ?_
  refine lv_iload hx hb dX10_bestNow_12 (lv_at hl 0 rfl) ?_
  refine lv_bipush (v := 16) hx hb dX10_bestNow_14 (by decide) ?_
  refine lv_icmp_ge (tgt := 65) hx hb dX10_bestNow_16 (by decide) (fun c9 => absurd c9 (by decide)) (fun _ => ?_)
  refine lv_bipush (v := 30) hx hb dX10_bestNow_19 (by decide) ?_
  refine lv_iload hx hb dX10_bestNow_21 (lv_at hl 0 rfl) ?_
  refine lv_iconst (v := 4) hx hb dX10_bestNow_23 (by decide) ?_
  refine lv_idiv hx hb dX10_bestNow_24 (by decide) ?_
  refine y_num (b := 3) (by decide) ?_
  refine lv_imul hx hb dX10_bestNow_25 ?_
  refine y_num (b := 90) (by decide) ?_
  refine lv_iconst (v := 3) hx hb dX10_bestNow_26 (by decide) ?_
  refine lv_iload hx hb dX10_bestNow_27 (lv_at hl 0 rfl) ?_
  refine lv_iconst (v := 4) hx hb dX10_bestNow_29 (by decide) ?_
  refine lv_irem hx hb dX10_bestNow_30 (by decide) ?_
  refine y_num (b := 3) (by decide) ?_
  refine lv_imul hx hb dX10_bestNow_31 ?_
  refine y_num (b := 9) (by decide) ?_
  refine lv_iadd hx hb dX10_bestNow_32 ?_
  refine y_num (b := 99) (by decide) ?_
  refine lv_istore (lv' := [(5, .int 99), (4, .int 15), (6, .int 0), (3, .int 0), (2, .int 0), (0, .ref mo), (1, .int (nI K))]) hx hb dX10_bestNow_33 hl (by decide) rfl (fun ls hl => ?_)
  refine lv_aload_n hx hb dX10_bestNow_35 rfl (lv_at hl 5 rfl) ?_
  refine lv_iload hx hb dX10_bestNow_36 (lv_at hl 0 rfl) ?_
  refine lv_iload_n hx hb dX10_bestNow_38 rfl (lv_at hl 6 rfl) ?_
  refine y_cVi (D := (dC, dI)) (cl := vwCl) (tys := yt ca) (nw := zw_nest) (C := RX10) (As := [.int 99, .int (nI K)]) (rest := []) ⟨hx, hb, hml, hown, hts⟩ (m_X10_valuesOf l dC dI ca mo H.size ad hI hm th sm 99 K hk30) (cwV 2 hts gX10_bestNow_X10_valuesOf rfl rfl rfl (by decide +kernel) ⟨Nat.le_of_ble_eq_true rfl, Nat.le_of_ble_eq_true rfl⟩) (va_recv hK (y_one hMo) (ci := 10) rfl (q0 := 0) rfl) ⟨rfl, hMo, hH⟩ hK hN hX zw_nest_ok rfl hl.1 rfl (Nat.le_of_ble_eq_true rfl) dX10_bestNow_39 ⟨Nat.le_of_ble_eq_true rfl, Nat.le_of_ble_eq_true rfl⟩ hS (yA_mono (by have b0 := hS.1; omega)) (fun H locs hB1 oq1 hz1 hS => ?_)
  obtain ⟨hMo, hH⟩ := hB1
  refine lv_istore (lv' := [(6, .int 0), (5, .int 99), (4, .int 15), (3, .int 0), (2, .int 0), (0, .ref mo), (1, .int (nI K))]) hx hb dX10_bestNow_42 hl (by decide) rfl (fun ls hl => ?_)
  refine lv_iload hx hb dX10_bestNow_44 (lv_at hl 0 rfl) ?_
  refine lv_iload_n hx hb dX10_bestNow_46 rfl (lv_at hl 3 rfl) ?_
  refine lv_icmp_gt (tgt := 53) hx hb dX10_bestNow_47 (by decide) (fun c9 => absurd c9 (by decide)) (fun _ => ?_)
  refine lv_goto (tgt := 59) hx hb dX10_bestNow_50 (by decide) ?_
  refine lv_iinc (v := 16) (lv' := [(4, .int 16), (6, .int 0), (5, .int 99), (3, .int 0), (2, .int 0), (0, .ref mo), (1, .int (nI K))]) hx hb dX10_bestNow_59 hl (k := 2) rfl (by decide) (by decide) rfl (fun ls hl => ?_)
  refine lv_goto (tgt := 12) hx hb dX10_bestNow_62 (by decide) ?_
  refine lv_iload hx hb dX10_bestNow_12 (lv_at hl 0 rfl) ?_
  refine lv_bipush (v := 16) hx hb dX10_bestNow_14 (by decide) ?_
  refine lv_icmp_ge (tgt := 65) hx hb dX10_bestNow_16 (by decide) (fun _ => ?_) (fun c9 => absurd c9 (by decide))
  refine lv_iload_n hx hb dX10_bestNow_65 rfl (lv_at hl 4 rfl) ?_
  refine W.widen (k := 656) (n := 4064) (Nat.le_of_ble_eq_true rfl) (Nat.le_of_ble_eq_true rfl) ?_
  exact W.iret (v := 0) hx hb hr (fun t ht hW => ⟨⟨0, (), rfl, rfl, z_to (B := (fun H => yMo dC dI mo th (ad 0) sm H ∧ yW dC dI ca ad (yM 0) H)) ht ⟨hMo, hH⟩⟩, hS.F ht⟩) hS.2.2 dX10_bestNow_66
set_option maxHeartbeats 4000000 in
set_option maxRecDepth 100000 in
theorem m_X10_bestValvesy (l : Launch) (dC : Nat → ClassId) (dI : Nat → Nat → Nat) (ca : Nat → ClassId) (mo sz : Nat) (ad : Nat → Nat) (hI : z_I yd ad) (hm : ∀ i, yd.1 i < 200 → ad i ≠ mo) (th : Int32) (sm : Int64) (K : Nat) (hk30 : K ≤ 30) (h : z_rg (nI K) 1 12): Met l yX10_bestValves wsX10_bestValves ({ frames := 6, cells := 656, slots := 4064, locals := 145 }) (z_Py (dC, dI) vwCl (yt ca) zw_nest [.ref mo, .int (nI K)] (fun H => H.size = sz ∧ yMo dC dI mo th (ad 0) sm H ∧ yW dC dI ca ad (yM 0) H)) (z_Qi 0 (fun H => yMo dC dI mo 0 (ad 0) sm H) (yA mo ad sz)) 656 4064 (yA mo ad sz) := by
  refine Met.ofW (cc := cX10_bestValves) (maxL := 2) (ret := (some .int)) (by decide) rfl ?_
  intro p e s m args below meth c s₁ B9 hml hv
  obtain ⟨rfl, ⟨hz, hMo, hH⟩, hK, hN, hX⟩ := hv
  have hx := B9.exec
  have hb := B9.bytes
  have hr := B9.returns
  have hts := atoms_spec (ws := wsX10_bestValves) B9.pre
  have hown : s.vm.findClass RX10 = some m.cls := findClass_of_methodNamed B9.named
  have hlocks := B9.notSynchronized
  have hS : va_S (yA mo ad sz) s.heap s.heap [] := va_S.rf
  have hba : ∀ i, yd.1 i < 200 → ad i < sz := fun i hi => by have b0 := hH.lt hi; omega
  have hbm : mo < sz := by have b0 := va_at.lt hMo; exact hz ▸ b0
  have hAs : ∀ q, s.heap.size ≤ q → (yA mo ad sz) q := fun q h => Or.inr (Or.inr (hz ▸ h))
  have hinX10 : ∀ w ∈ u_ws RX10 TX10 3, w ∈ wsX10_bestValves := by decide +kernel
  have hl := lv_entry ([.ref mo, .int (nI K)]) (n := 2) (Nat.le_of_ble_eq_true rfl)
  rw [lg_entry_eq]
  generalize (lg_sl ([.ref mo, .int (nI K)]) ++ List.replicate (2 - (lg_sl ([.ref mo, .int (nI K)])).length) Slot.unset).toArray = ls at hl ⊢
  have hl : lv_has ls 2 [(0, .ref mo), (1, .int (nI K))] := hl
  refine lv_aload_n hx hb dX10_bestValves_0 rfl (lv_at hl 0 rfl) ?_
  refine lv_iconst (v := 0) hx hb dX10_bestValves_1 (by decide) ?_
  refine yo_put (D := (dC, dI)) (cl := vwCl) (C := RX10) (T := TX10) (N := 3) (ci := 10) (ty := .int) hx hb hts hinX10 tyX10 tyX10_ok nmX10 hown hK hMo hS (Or.inl rfl) rfl 0 (by decide) (hts (.fieldLink RX10 16 "SteamfieldModel" "thrown" "I") (by decide +kernel)) (fun _ h9 => h9) rfl (by decide +kernel) rfl rfl (show 0 < 3 by decide) dX10_bestValves_2 (fun H locs hMo z9 oq hS => ?_)
  have hMo : yMo dC dI mo 0 (ad 0) sm H := hMo
  have hH := hH.kept (fun i hi => oq _ (hm i hi))
  refine lv_iload_n hx hb dX10_bestValves_5 rfl (lv_at hl 1 rfl) ?_
  refine lv_iconst (v := 1) hx hb dX10_bestValves_6 (by decide) ?_
  refine lv_bipush (v := 12) hx hb dX10_bestValves_7 (by decide) ?_
  refine y_cSi (D := (dC, dI)) (cl := vwCl) (tys := yt ca) (nw := zw_nest) (As := [.int (nI K), .int 1, .int 12]) (rest := []) ⟨hx, hb, hml, hown, hts⟩ (m_X10_isy l dC dI ca (fun z : Heap => z = H) (nI K) 1 12 h) (cwS 3 hts gX10_bestValves_X10_is rfl rfl rfl (by decide +kernel) ⟨Nat.le_of_ble_eq_true rfl, Nat.le_of_ble_eq_true rfl⟩) rfl hK hN hX zw_nest_ok rfl hl.1 rfl (Nat.le_of_ble_eq_true rfl) dX10_bestValves_9 ⟨Nat.le_of_ble_eq_true rfl, Nat.le_of_ble_eq_true rfl⟩ hS (fun _ h => h.elim) (fun H locs hB1 oq1 hz1 hS => ?_)
  have hH : z_H (dC, dI) vwCl yf ca yd ad (yM 0) H := by rw [hB1]; exact hH
  have hMo : yMo dC dI mo 0 (ad 0) sm H := by rw [hB1]; exact hMo
  refine lv_if_eq (tgt := 23) hx hb dX10_bestValves_12 (by decide) (fun c9 => absurd c9 (by decide)) (fun _ => ?_)
  refine lv_aload_n hx hb dX10_bestValves_15 rfl (lv_at hl 0 rfl) ?_
  refine lv_iload_n hx hb dX10_bestValves_16 rfl (lv_at hl 1 rfl) ?_
  refine y_cVi (D := (dC, dI)) (cl := vwCl) (tys := yt ca) (nw := zw_nest) (C := RX10) (As := [.int (nI K)]) (rest := []) ⟨hx, hb, hml, hown, hts⟩ (m_X10_bestNow l dC dI ca mo H.size ad hI hm 0 sm K hk30) (cwV 1 hts gX10_bestValves_X10_bestNow rfl rfl rfl (by decide +kernel) ⟨Nat.le_of_ble_eq_true rfl, Nat.le_of_ble_eq_true rfl⟩) (va_recv hK (y_one hMo) (ci := 10) rfl (q0 := 0) rfl) ⟨rfl, hMo, hH⟩ hK hN hX zw_nest_ok rfl hl.1 rfl (Nat.le_of_ble_eq_true rfl) dX10_bestValves_17 ⟨Nat.le_of_ble_eq_true rfl, Nat.le_of_ble_eq_true rfl⟩ hS (yA_mono (by have b0 := hS.1; omega)) (fun H locs hB1 oq1 hz1 hS => ?_)
  obtain ⟨hMo, hH⟩ := hB1
  refine lv_goto (tgt := 28) hx hb dX10_bestValves_20 (by decide) ?_
  refine W.widen (k := 656) (n := 4064) (Nat.le_of_ble_eq_true rfl) (Nat.le_of_ble_eq_true rfl) ?_
  exact W.iret (v := 0) hx hb hr (fun t ht hW => ⟨⟨0, (), rfl, rfl, z_to (B := (fun H => yMo dC dI mo 0 (ad 0) sm H)) ht hMo⟩, hS.F ht⟩) hS.2.2 dX10_bestValves_28
set_option maxHeartbeats 4000000 in
set_option maxRecDepth 100000 in
theorem m_X10_bestValvesn (l : Launch) (dC : Nat → ClassId) (dI : Nat → Nat → Nat) (ca : Nat → ClassId) (mo sz : Nat) (ad : Nat → Nat) (hI : z_I yd ad) (hm : ∀ i, yd.1 i < 200 → ad i ≠ mo) (th : Int32) (sm : Int64) (a1 : Int32) (h : ¬ z_rg a1 1 12): Met l yX10_bestValves wsX10_bestValves ({ frames := 1, cells := 0, slots := 0, locals := 22 }) (z_Py (dC, dI) vwCl (yt ca) zw_nest [.ref mo, .int a1] (fun H => H.size = sz ∧ yMo dC dI mo th (ad 0) sm H ∧ yW dC dI ca ad (yM 0) H)) (z_Qi 0 (fun H => yMo dC dI mo 1 (ad 0) sm H ∧ yW dC dI ca ad (yM 0) H) (yA mo ad sz)) 0 0 (yA mo ad sz) := by
  refine Met.ofW (cc := cX10_bestValves) (maxL := 2) (ret := (some .int)) (by decide) rfl ?_
  intro p e s m args below meth c s₁ B9 hml hv
  obtain ⟨rfl, ⟨hz, hMo, hH⟩, hK, hN, hX⟩ := hv
  have hx := B9.exec
  have hb := B9.bytes
  have hr := B9.returns
  have hts := atoms_spec (ws := wsX10_bestValves) B9.pre
  have hown : s.vm.findClass RX10 = some m.cls := findClass_of_methodNamed B9.named
  have hlocks := B9.notSynchronized
  have hS : va_S (yA mo ad sz) s.heap s.heap [] := va_S.rf
  have hba : ∀ i, yd.1 i < 200 → ad i < sz := fun i hi => by have b0 := hH.lt hi; omega
  have hbm : mo < sz := by have b0 := va_at.lt hMo; exact hz ▸ b0
  have hAs : ∀ q, s.heap.size ≤ q → (yA mo ad sz) q := fun q h => Or.inr (Or.inr (hz ▸ h))
  have hinX10 : ∀ w ∈ u_ws RX10 TX10 3, w ∈ wsX10_bestValves := by decide +kernel
  have hl := lv_entry ([.ref mo, .int a1]) (n := 2) (Nat.le_of_ble_eq_true rfl)
  rw [lg_entry_eq]
  generalize (lg_sl ([.ref mo, .int a1]) ++ List.replicate (2 - (lg_sl ([.ref mo, .int a1])).length) Slot.unset).toArray = ls at hl ⊢
  have hl : lv_has ls 2 [(0, .ref mo), (1, .int a1)] := hl
  refine lv_aload_n hx hb dX10_bestValves_0 rfl (lv_at hl 0 rfl) ?_
  refine lv_iconst (v := 0) hx hb dX10_bestValves_1 (by decide) ?_
  refine yo_put (D := (dC, dI)) (cl := vwCl) (C := RX10) (T := TX10) (N := 3) (ci := 10) (ty := .int) hx hb hts hinX10 tyX10 tyX10_ok nmX10 hown hK hMo hS (Or.inl rfl) rfl 0 (by decide) (hts (.fieldLink RX10 16 "SteamfieldModel" "thrown" "I") (by decide +kernel)) (fun _ h9 => h9) rfl (by decide +kernel) rfl rfl (show 0 < 3 by decide) dX10_bestValves_2 (fun H locs hMo z9 oq hS => ?_)
  have hMo : yMo dC dI mo 0 (ad 0) sm H := hMo
  have hH := hH.kept (fun i hi => oq _ (hm i hi))
  refine lv_iload_n hx hb dX10_bestValves_5 rfl (lv_at hl 1 rfl) ?_
  refine lv_iconst (v := 1) hx hb dX10_bestValves_6 (by decide) ?_
  refine lv_bipush (v := 12) hx hb dX10_bestValves_7 (by decide) ?_
  refine y_cSi (D := (dC, dI)) (cl := vwCl) (tys := yt ca) (nw := zw_nest) (As := [.int a1, .int 1, .int 12]) (rest := []) ⟨hx, hb, hml, hown, hts⟩ (m_X10_isn l dC dI ca (fun z : Heap => z = H) a1 1 12 h) (cwS 3 hts gX10_bestValves_X10_is rfl rfl rfl (by decide +kernel) ⟨Nat.le_of_ble_eq_true rfl, Nat.le_of_ble_eq_true rfl⟩) rfl hK hN hX zw_nest_ok rfl hl.1 rfl (Nat.le_of_ble_eq_true rfl) dX10_bestValves_9 ⟨Nat.le_of_ble_eq_true rfl, Nat.le_of_ble_eq_true rfl⟩ hS (fun _ h => h.elim) (fun H locs hB1 oq1 hz1 hS => ?_)
  have hH : z_H (dC, dI) vwCl yf ca yd ad (yM 0) H := by rw [hB1]; exact hH
  have hMo : yMo dC dI mo 0 (ad 0) sm H := by rw [hB1]; exact hMo
  refine lv_if_eq (tgt := 23) hx hb dX10_bestValves_12 (by decide) (fun _ => ?_) (fun c9 => absurd c9 (by decide))
  refine lv_aload_n hx hb dX10_bestValves_23 rfl (lv_at hl 0 rfl) ?_
  refine lv_iconst (v := 1) hx hb dX10_bestValves_24 (by decide) ?_
  refine y_cVi (D := (dC, dI)) (cl := vwCl) (tys := yt ca) (nw := zw_nest) (C := RX10) (As := [.int 1]) (rest := []) ⟨hx, hb, hml, hown, hts⟩ (m_X10_refuse l dC dI ca mo H.size ad hI hm 0 sm 1 ) (cwV 1 hts gX10_bestValves_X10_refuse rfl rfl rfl (by decide +kernel) ⟨Nat.le_of_ble_eq_true rfl, Nat.le_of_ble_eq_true rfl⟩) (va_recv hK (y_one hMo) (ci := 10) rfl (q0 := 0) rfl) ⟨rfl, hMo, hH⟩ hK hN hX zw_nest_ok rfl hl.1 rfl (Nat.le_of_ble_eq_true rfl) dX10_bestValves_25 ⟨Nat.le_of_ble_eq_true rfl, Nat.le_of_ble_eq_true rfl⟩ hS (yA_mono (by have b0 := hS.1; omega)) (fun H locs hB1 oq1 hz1 hS => ?_)
  obtain ⟨hMo, hH⟩ := hB1
  refine W.widen (k := 0) (n := 0) (Nat.le_of_ble_eq_true rfl) (Nat.le_of_ble_eq_true rfl) ?_
  exact W.iret (v := 0) hx hb hr (fun t ht hW => ⟨⟨0, (), rfl, rfl, z_to (B := (fun H => yMo dC dI mo 1 (ad 0) sm H ∧ yW dC dI ca ad (yM 0) H)) ht ⟨hMo, hH⟩⟩, hS.F ht⟩) hS.2.2 dX10_bestValves_28
set_option maxHeartbeats 4000000 in
set_option maxRecDepth 100000 in
theorem m_X10_add (l : Launch) (dC : Nat → ClassId) (dI : Nat → Nat → Nat) (ca : Nat → ClassId) (mo sz : Nat) (ad : Nat → Nat) (hI : z_I yd ad) (hm : ∀ i, yd.1 i < 200 → ad i ≠ mo) (th : Int32) (sm : Int64) (a1 : Int32) : Met l yX10_add wsX10_add ({ frames := 0, cells := 0, slots := 0, locals := 0 }) (z_Py (dC, dI) vwCl (yt ca) zw_nest [.ref mo, .int a1] (fun H => H.size = sz ∧ yMo dC dI mo th (ad 0) sm H ∧ yW dC dI ca ad (yM 0) H)) (z_Qv (fun H => yMo dC dI mo th (ad 0) (sm * 31 + a1.toInt64) H ∧ yW dC dI ca ad (yM 0) H) (yA mo ad sz)) 0 0 (yA mo ad sz) := by
  refine Met.ofW (cc := cX10_add) (maxL := 2) (ret := none) (by decide) rfl ?_
  intro p e s m args below meth c s₁ B9 hml hv
  obtain ⟨rfl, ⟨hz, hMo, hH⟩, hK, hN, hX⟩ := hv
  have hx := B9.exec
  have hb := B9.bytes
  have hr := B9.returns
  have hts := atoms_spec (ws := wsX10_add) B9.pre
  have hown : s.vm.findClass RX10 = some m.cls := findClass_of_methodNamed B9.named
  have hlocks := B9.notSynchronized
  have hS : va_S (yA mo ad sz) s.heap s.heap [] := va_S.rf
  have hba : ∀ i, yd.1 i < 200 → ad i < sz := fun i hi => by have b0 := hH.lt hi; omega
  have hbm : mo < sz := by have b0 := va_at.lt hMo; exact hz ▸ b0
  have hAs : ∀ q, s.heap.size ≤ q → (yA mo ad sz) q := fun q h => Or.inr (Or.inr (hz ▸ h))
  have hinX10 : ∀ w ∈ u_ws RX10 TX10 3, w ∈ wsX10_add := by decide +kernel
  have hl := lv_entry ([.ref mo, .int a1]) (n := 2) (Nat.le_of_ble_eq_true rfl)
  rw [lg_entry_eq]
  generalize (lg_sl ([.ref mo, .int a1]) ++ List.replicate (2 - (lg_sl ([.ref mo, .int a1])).length) Slot.unset).toArray = ls at hl ⊢
  have hl : lv_has ls 2 [(0, .ref mo), (1, .int a1)] := hl
  refine lv_aload_n hx hb dX10_add_0 rfl (lv_at hl 0 rfl) ?_
  refine lv_aload_n hx hb dX10_add_1 rfl (lv_at hl 0 rfl) ?_
  refine yo_get (D := (dC, dI)) (cl := vwCl) (C := RX10) (T := TX10) (N := 3) (ci := 10) (v := .long sm) hx hb hts hinX10 hown hK hMo rfl 2 (by decide) (hts (.fieldLink RX10 173 "SteamfieldModel" "sum" "J") (by decide +kernel)) (fun _ h9 => h9) rfl dX10_add_2 ?_
  refine lv_ldc2 (v := 31) hx hb hown (hts (.constantLong RX10 176 31) (by decide +kernel)) dX10_add_5 ?_
  refine lv_lmul hx hb dX10_add_8 ?_
  refine lv_iload_n hx hb dX10_add_9 rfl (lv_at hl 1 rfl) ?_
  refine lv_i2l hx hb dX10_add_10 rfl ?_
  refine lv_ladd hx hb dX10_add_11 ?_
  refine yo_put (D := (dC, dI)) (cl := vwCl) (C := RX10) (T := TX10) (N := 3) (ci := 10) (ty := .long) hx hb hts hinX10 tyX10 tyX10_ok nmX10 hown hK hMo hS (Or.inl rfl) rfl 2 (by decide) (hts (.fieldLink RX10 173 "SteamfieldModel" "sum" "J") (by decide +kernel)) (fun _ h9 => h9) rfl (by decide +kernel) rfl rfl (show 2 < 3 by decide) dX10_add_12 (fun H locs hMo z9 oq hS => ?_)
  have hMo : yMo dC dI mo th (ad 0) ((sm * 31) + (a1).toInt64) H := hMo
  have hH := hH.kept (fun i hi => oq _ (hm i hi))
  refine W.widen (k := 0) (n := 0) (Nat.le_of_ble_eq_true rfl) (Nat.le_of_ble_eq_true rfl) ?_
  exact W.vret hx hb hr (fun t ht hW => ⟨⟨(), rfl, trivial, z_to (B := (fun H => yMo dC dI mo th (ad 0) (sm * 31 + a1.toInt64) H ∧ yW dC dI ca ad (yM 0) H)) ht ⟨hMo, hH⟩⟩, hS.F ht⟩) hS.2.2 dX10_add_15
