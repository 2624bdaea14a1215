def rX8_isClosed (M : zM) (N : zM)  : Int32 :=
  let x1 : Int32 := M 7 3
  let x2 : Int32 := M 7 4
  let x3 : Int32 := x1 + x2
  let x4 : Int32 := M 11 0
  let x5 : Int32 := rX3_accountedFor M 0
  let x6 : Int32 := x5 + x3
  let x8 : Int32 := if ¬ x4 = x6 then 0 else (let x8 : Int32 := M 11 2; let x9 : Int32 := rX3_accountedFor M 2; let x11 : Int32 := if ¬ x8 = x9 then 0 else (let x11 : Int32 := M 11 3; let x12 : Int32 := rX3_accountedFor M 3; let x14 : Int32 := if ¬ x11 = x12 then 0 else 1; x14); x11)
  x8
set_option maxHeartbeats 4000000 in
set_option maxRecDepth 100000 in
theorem m_X8_isClosed (l : Launch) (dC : Nat → ClassId) (dI : Nat → Nat → Nat) (ca : Nat → ClassId) (sf : Nat) (ad : Nat → Nat) (hI : z_I zd ad) (ad2 : Nat → Nat) (hI2 : z_I zd ad2) (hq : zSep sf ad ad2) (M : zM) (N : zM) (hOk0 : z_Ok M) : Met l yX8_isClosed wsX8_isClosed ({ frames := 3, cells := 0, slots := 0, locals := 65 }) (z_Pc (dC, dI) vwCl (zt ca) zw_nest [.ref sf] (fun H => zT dC dI ca sf (ad 0) (ad2 0) H ∧ zW dC dI ca ad M H ∧ zW dC dI ca ad2 N H)) (z_Qi (rX8_isClosed M N ) (fun H => zT dC dI ca sf (ad 0) (ad2 0) H ∧ zW dC dI ca ad M H ∧ zW dC dI ca ad2 N H) (zA2 ad ad2)) 0 0 (zA2 ad ad2) := by
  refine Met.ofW (cc := cX8_isClosed) (maxL := 2) (ret := (some .boolean)) (by decide) rfl ?_
  intro p e s m args below meth c s₁ B9 hml hv
  obtain ⟨rfl, ⟨hT, hH, hG⟩, hK, hN⟩ := hv
  have hx := B9.exec
  have hb := B9.bytes
  have hr := B9.returns
  have hts := atoms_spec (ws := wsX8_isClosed) B9.pre
  have hown : s.vm.findClass RX8 = some m.cls := findClass_of_methodNamed B9.named
  have hlocks := B9.notSynchronized
  have hS : va_S (zA2 ad ad2) s.heap s.heap [] := va_S.rf
  have hOk := hOk0
  have hFx : z_Fx M M := z_Fx.rf
  have hT : zT dC dI ca sf (ad 0) (ad2 0) s.heap := hT
  have hH : zW dC dI ca ad M s.heap := hH
  have hG : zW dC dI ca ad2 N s.heap := hG
  have hinX1 : ∀ w ∈ u_ws RX1 TX1 5, w ∈ wsX8_isClosed := by decide +kernel
  have hinX3 : ∀ w ∈ u_ws RX3 TX3 15, w ∈ wsX8_isClosed := by decide +kernel
  have hinX6 : ∀ w ∈ u_ws RX6 TX6 4, w ∈ wsX8_isClosed := by decide +kernel
  have hinX8 : ∀ w ∈ u_ws RX8 TX8 2, w ∈ wsX8_isClosed := by decide +kernel
  have hl := lv_entry ([.ref sf]) (n := 2) (Nat.le_of_ble_eq_true rfl)
  rw [lg_entry_eq]
  generalize (lg_sl ([.ref sf]) ++ List.replicate (2 - (lg_sl ([.ref sf])).length) Slot.unset).toArray = ls at hl ⊢
  have hl : lv_has ls 2 [(0, .ref sf)] := hl
  refine lv_aload_n hx hb dX8_isClosed_0 rfl (lv_at hl 0 rfl) ?_
  refine z_gS (k := 0) (v := ad 0) hx hb hts hinX8 hown hK hT (by decide) rfl (hts (.fieldLink RX8 10 "Steamfield" "land" "LSteamfield$Land;") (by decide +kernel)) (fun _ h9 => h9) dX8_isClosed_1 ?_
  refine z_grN (D := (dC, dI)) (cl := vwCl) (C := RX3) (T := TX3) (N := 15) (ci := 3) (k := 6) hx hb hts hinX3 hown hK hH zk_0 (by decide) rfl (by decide) rfl (zr_0 (k := 6) (by decide)) (hN (.fieldLinkNest RX8 58 "Steamfield$Land" "books" "LSteamfield$Books;" "Steamfield") (by decide +kernel)) (fun _ h9 => h9) dX8_isClosed_4 ?_
  refine z_giN (D := (dC, dI)) (cl := vwCl) (C := RX1) (T := TX1) (N := 5) (ci := 1) (k := 3) hx hb hts hinX1 hown hK hH zk_7 (by decide) rfl (by decide) rfl (hN (.fieldLinkNest RX8 212 "Steamfield$Books" "used" "I" "Steamfield") (by decide +kernel)) (fun _ h9 => h9) dX8_isClosed_7 ?_
  refine lv_topi (fun x1 ex1 => ?_)
  refine lv_aload_n hx hb dX8_isClosed_10 rfl (lv_at hl 0 rfl) ?_
  refine z_gS (k := 0) (v := ad 0) hx hb hts hinX8 hown hK hT (by decide) rfl (hts (.fieldLink RX8 10 "Steamfield" "land" "LSteamfield$Land;") (by decide +kernel)) (fun _ h9 => h9) dX8_isClosed_11 ?_
  refine z_grN (D := (dC, dI)) (cl := vwCl) (C := RX3) (T := TX3) (N := 15) (ci := 3) (k := 6) hx hb hts hinX3 hown hK hH zk_0 (by decide) rfl (by decide) rfl (zr_0 (k := 6) (by decide)) (hN (.fieldLinkNest RX8 58 "Steamfield$Land" "books" "LSteamfield$Books;" "Steamfield") (by decide +kernel)) (fun _ h9 => h9) dX8_isClosed_14 ?_
  refine z_giN (D := (dC, dI)) (cl := vwCl) (C := RX1) (T := TX1) (N := 5) (ci := 1) (k := 4) hx hb hts hinX1 hown hK hH zk_7 (by decide) rfl (by decide) rfl (hN (.fieldLinkNest RX8 215 "Steamfield$Books" "vented" "I" "Steamfield") (by decide +kernel)) (fun _ h9 => h9) dX8_isClosed_17 ?_
  refine lv_topi (fun x2 ex2 => ?_)
  refine lv_iadd hx hb dX8_isClosed_20 ?_
  refine lv_topi (fun x3 ex3 => ?_)
  refine lv_istore_n (lv' := [(1, .int x3), (0, .ref sf)]) hx hb dX8_isClosed_21 rfl hl (by decide) rfl (fun ls hl => ?_)
  refine lv_aload_n hx hb dX8_isClosed_22 rfl (lv_at hl 1 rfl) ?_
  refine z_gS (k := 0) (v := ad 0) hx hb hts hinX8 hown hK hT (by decide) rfl (hts (.fieldLink RX8 10 "Steamfield" "land" "LSteamfield$Land;") (by decide +kernel)) (fun _ h9 => h9) dX8_isClosed_23 ?_
  refine z_grN (D := (dC, dI)) (cl := vwCl) (C := RX3) (T := TX3) (N := 15) (ci := 3) (k := 6) hx hb hts hinX3 hown hK hH zk_0 (by decide) rfl (by decide) rfl (zr_0 (k := 6) (by decide)) (hN (.fieldLinkNest RX8 58 "Steamfield$Land" "books" "LSteamfield$Books;" "Steamfield") (by decide +kernel)) (fun _ h9 => h9) dX8_isClosed_26 ?_
  refine z_grN (D := (dC, dI)) (cl := vwCl) (C := RX1) (T := TX1) (N := 5) (ci := 1) (k := 0) hx hb hts hinX1 hown hK hH zk_7 (by decide) rfl (by decide) rfl (zr_7 (k := 0) (by decide)) (hN (.fieldLinkNest RX8 62 "Steamfield$Books" "told" "LSteamfield$Water;" "Steamfield") (by decide +kernel)) (fun _ h9 => h9) dX8_isClosed_29 ?_
  refine z_giN (D := (dC, dI)) (cl := vwCl) (C := RX6) (T := TX6) (N := 4) (ci := 6) (k := 0) hx hb hts hinX6 hown hK hH zk_11 (by decide) rfl (by decide) rfl (hN (.fieldLinkNest RX8 47 "Steamfield$Water" "mass" "I" "Steamfield") (by decide +kernel)) (fun _ h9 => h9) dX8_isClosed_32 ?_
  refine lv_topi (fun x4 ex4 => ?_)
  refine lv_aload_n hx hb dX8_isClosed_35 rfl (lv_at hl 1 rfl) ?_
  refine z_gS (k := 0) (v := ad 0) hx hb hts hinX8 hown hK hT (by decide) rfl (hts (.fieldLink RX8 10 "Steamfield" "land" "LSteamfield$Land;") (by decide +kernel)) (fun _ h9 => h9) dX8_isClosed_36 ?_
  refine lv_iconst (v := 0) hx hb dX8_isClosed_39 (by decide) ?_
  refine z_cVi (D := (dC, dI)) (cl := vwCl) (tys := zt ca) (nw := zw_nest) (C := RX3) (As := [.int 0]) (rest := [.int x4]) ⟨hx, hb, hml, hown, hts⟩ (m_X3_accountedFor l dC dI ca ad hI M 0 hOk) (cwV 1 hts gX8_isClosed_X3_accountedFor rfl rfl rfl (by decide +kernel) ⟨Nat.le_of_ble_eq_true rfl, Nat.le_of_ble_eq_true rfl⟩) (z_recv (ci := 3) (i := 0) hK hH zk_0 (by decide) rfl) hH hK hN zw_nest_ok rfl hl.1 rfl (Nat.le_of_ble_eq_true rfl) dX8_isClosed_40 ⟨Nat.le_refl _, Nat.le_refl _⟩ hS (fun _ h => Or.inl h) (fun H locs hB1 oq1 hz1 hS => ?_)
  have hT := zT_c hT oq1 hq.a1
  have hG := zW_c hG oq1 hq.x
  have hH := hB1
  refine lv_topi (fun x5 ex5 => ?_)
  refine lv_iload_n hx hb dX8_isClosed_43 rfl (lv_at hl 0 rfl) ?_
  refine lv_iadd hx hb dX8_isClosed_44 ?_
  refine lv_topi (fun x6 ex6 => ?_)
  have J9 : ∀ x8 : Int32, x8 = (if ¬ x4 = x6 then 0 else (let x8 : Int32 := M 11 2; let x9 : Int32 := rX3_accountedFor M 2; let x11 : Int32 := if ¬ x8 = x9 then 0 else (let x11 : Int32 := M 11 3; let x12 : Int32 := rX3_accountedFor M 3; let x14 : Int32 := if ¬ x11 = x12 then 0 else 1; x14); x11)) → ∀ ls : Array Slot, lv_has ls 2 [(0, .ref sf), (1, .int x3)] → ∀ (H : Heap) (locs : List Loc), zT dC dI ca sf (ad 0) (ad2 0) H → zW dC dI ca ad M H → zW dC dI ca ad2 N H → va_S (zA2 ad ad2) s.heap H locs → W p l e (headSpec wsX8_isClosed ({ frames := 3, cells := 0, slots := 0, locals := 65 })).room s m ([.ref sf] : List Value).toArray below meth c H locs 0 0 (MQ below (z_Qi (rX8_isClosed M N ) (fun H => zT dC dI ca sf (ad 0) (ad2 0) H ∧ zW dC dI ca ad M H ∧ zW dC dI ca ad2 N H) (zA2 ad ad2)) ([.ref sf] : List Value).toArray s 0 0 (zA2 ad ad2)) (F0 m 101 ls [.int x8]) := by
    intro x8 ex8 ls hl H locs hT hH hG hS
    have hR : x8 = rX8_isClosed M N  := by subst ex8; subst ex6; subst ex5; subst ex4; subst ex3; subst ex2; subst ex1; rfl
    exact W.zret (v := x8) (ty := .boolean) hx hb hr (z_bn (by subst ex8; subst ex6; subst ex5; subst ex4; subst ex3; subst ex2; subst ex1; repeat first | exact Or.inl rfl | exact Or.inr rfl | (refine z_ite01 ?_ ?_))) (fun t ht hW => ⟨⟨x8, (), rfl, hR, z_to (B := fun H => zT dC dI ca sf (ad 0) (ad2 0) H ∧ zW dC dI ca ad M H ∧ zW dC dI ca ad2 N H) ht ⟨hT, hH, hG⟩⟩, hS.F ht⟩) hS.2.2 dX8_isClosed_101
  refine lv_icmp_ne (tgt := 100) hx hb dX8_isClosed_45 (by decide) (fun c7 => ?_) (fun c7 => ?_)
  · refine lv_iconst (v := 0) hx hb dX8_isClosed_100 (by decide) ?_
    exact J9 _ (by exact (if_pos c7).symm) ls (lv_sub hl [1, 0] rfl) _ _ hT hH hG hS
  · refine lv_aload_n hx hb dX8_isClosed_48 rfl (lv_at hl 1 rfl) ?_
    refine z_gS (k := 0) (v := ad 0) hx hb hts hinX8 hown hK hT (by decide) rfl (hts (.fieldLink RX8 10 "Steamfield" "land" "LSteamfield$Land;") (by decide +kernel)) (fun _ h9 => h9) dX8_isClosed_49 ?_
    refine z_grN (D := (dC, dI)) (cl := vwCl) (C := RX3) (T := TX3) (N := 15) (ci := 3) (k := 6) hx hb hts hinX3 hown hK hH zk_0 (by decide) rfl (by decide) rfl (zr_0 (k := 6) (by decide)) (hN (.fieldLinkNest RX8 58 "Steamfield$Land" "books" "LSteamfield$Books;" "Steamfield") (by decide +kernel)) (fun _ h9 => h9) dX8_isClosed_52 ?_
    refine z_grN (D := (dC, dI)) (cl := vwCl) (C := RX1) (T := TX1) (N := 5) (ci := 1) (k := 0) hx hb hts hinX1 hown hK hH zk_7 (by decide) rfl (by decide) rfl (zr_7 (k := 0) (by decide)) (hN (.fieldLinkNest RX8 62 "Steamfield$Books" "told" "LSteamfield$Water;" "Steamfield") (by decide +kernel)) (fun _ h9 => h9) dX8_isClosed_55 ?_
    refine z_giN (D := (dC, dI)) (cl := vwCl) (C := RX6) (T := TX6) (N := 4) (ci := 6) (k := 2) hx hb hts hinX6 hown hK hH zk_11 (by decide) rfl (by decide) rfl (hN (.fieldLinkNest RX8 55 "Steamfield$Water" "salt" "I" "Steamfield") (by decide +kernel)) (fun _ h9 => h9) dX8_isClosed_58 ?_
    refine lv_topi (fun x8 ex8 => ?_)
    refine lv_aload_n hx hb dX8_isClosed_61 rfl (lv_at hl 1 rfl) ?_
    refine z_gS (k := 0) (v := ad 0) hx hb hts hinX8 hown hK hT (by decide) rfl (hts (.fieldLink RX8 10 "Steamfield" "land" "LSteamfield$Land;") (by decide +kernel)) (fun _ h9 => h9) dX8_isClosed_62 ?_
    refine lv_iconst (v := 2) hx hb dX8_isClosed_65 (by decide) ?_
    refine z_cVi (D := (dC, dI)) (cl := vwCl) (tys := zt ca) (nw := zw_nest) (C := RX3) (As := [.int 2]) (rest := [.int x8]) ⟨hx, hb, hml, hown, hts⟩ (m_X3_accountedFor l dC dI ca ad hI M 2 hOk) (cwV 1 hts gX8_isClosed_X3_accountedFor rfl rfl rfl (by decide +kernel) ⟨Nat.le_of_ble_eq_true rfl, Nat.le_of_ble_eq_true rfl⟩) (z_recv (ci := 3) (i := 0) hK hH zk_0 (by decide) rfl) hH hK hN zw_nest_ok rfl hl.1 rfl (Nat.le_of_ble_eq_true rfl) dX8_isClosed_66 ⟨Nat.le_refl _, Nat.le_refl _⟩ hS (fun _ h => Or.inl h) (fun H locs hB1 oq1 hz1 hS => ?_)
    have hT := zT_c hT oq1 hq.a1
    have hG := zW_c hG oq1 hq.x
    have hH := hB1
    refine lv_topi (fun x9 ex9 => ?_)
    have J12 : ∀ x11 : Int32, x11 = (if ¬ x8 = x9 then 0 else (let x11 : Int32 := M 11 3; let x12 : Int32 := rX3_accountedFor M 3; let x14 : Int32 := if ¬ x11 = x12 then 0 else 1; x14)) → ∀ ls : Array Slot, lv_has ls 2 [(0, .ref sf), (1, .int x3)] → ∀ (H : Heap) (locs : List Loc), zT dC dI ca sf (ad 0) (ad2 0) H → zW dC dI ca ad M H → zW dC dI ca ad2 N H → va_S (zA2 ad ad2) s.heap H locs → W p l e (headSpec wsX8_isClosed ({ frames := 3, cells := 0, slots := 0, locals := 65 })).room s m ([.ref sf] : List Value).toArray below meth c H locs 0 0 (MQ below (z_Qi (rX8_isClosed M N ) (fun H => zT dC dI ca sf (ad 0) (ad2 0) H ∧ zW dC dI ca ad M H ∧ zW dC dI ca ad2 N H) (zA2 ad ad2)) ([.ref sf] : List Value).toArray s 0 0 (zA2 ad ad2)) (F0 m 101 ls [.int x11]) := by
      intro x11 ex11 ls hl H locs hT hH hG hS
      exact J9 _ (by subst ex11; subst ex9; subst ex8; exact (if_neg (fun hh => hh c7)).symm) ls (lv_sub hl [0, 1] rfl) _ _ hT hH hG hS
    refine lv_icmp_ne (tgt := 100) hx hb dX8_isClosed_69 (by decide) (fun c10 => ?_) (fun c10 => ?_)
    · refine lv_iconst (v := 0) hx hb dX8_isClosed_100 (by decide) ?_
      exact J12 _ (by exact (if_pos c10).symm) ls (lv_sub hl [1, 0] rfl) _ _ hT hH hG hS
    · refine lv_aload_n hx hb dX8_isClosed_72 rfl (lv_at hl 1 rfl) ?_
      refine z_gS (k := 0) (v := ad 0) hx hb hts hinX8 hown hK hT (by decide) rfl (hts (.fieldLink RX8 10 "Steamfield" "land" "LSteamfield$Land;") (by decide +kernel)) (fun _ h9 => h9) dX8_isClosed_73 ?_
      refine z_grN (D := (dC, dI)) (cl := vwCl) (C := RX3) (T := TX3) (N := 15) (ci := 3) (k := 6) hx hb hts hinX3 hown hK hH zk_0 (by decide) rfl (by decide) rfl (zr_0 (k := 6) (by decide)) (hN (.fieldLinkNest RX8 58 "Steamfield$Land" "books" "LSteamfield$Books;" "Steamfield") (by decide +kernel)) (fun _ h9 => h9) dX8_isClosed_76 ?_
      refine z_grN (D := (dC, dI)) (cl := vwCl) (C := RX1) (T := TX1) (N := 5) (ci := 1) (k := 0) hx hb hts hinX1 hown hK hH zk_7 (by decide) rfl (by decide) rfl (zr_7 (k := 0) (by decide)) (hN (.fieldLinkNest RX8 62 "Steamfield$Books" "told" "LSteamfield$Water;" "Steamfield") (by decide +kernel)) (fun _ h9 => h9) dX8_isClosed_79 ?_
      refine z_giN (D := (dC, dI)) (cl := vwCl) (C := RX6) (T := TX6) (N := 4) (ci := 6) (k := 3) hx hb hts hinX6 hown hK hH zk_11 (by decide) rfl (by decide) rfl (hN (.fieldLinkNest RX8 139 "Steamfield$Water" "tracer" "I" "Steamfield") (by decide +kernel)) (fun _ h9 => h9) dX8_isClosed_82 ?_
      refine lv_topi (fun x11 ex11 => ?_)
      refine lv_aload_n hx hb dX8_isClosed_85 rfl (lv_at hl 1 rfl) ?_
      refine z_gS (k := 0) (v := ad 0) hx hb hts hinX8 hown hK hT (by decide) rfl (hts (.fieldLink RX8 10 "Steamfield" "land" "LSteamfield$Land;") (by decide +kernel)) (fun _ h9 => h9) dX8_isClosed_86 ?_
      refine lv_iconst (v := 3) hx hb dX8_isClosed_89 (by decide) ?_
      refine z_cVi (D := (dC, dI)) (cl := vwCl) (tys := zt ca) (nw := zw_nest) (C := RX3) (As := [.int 3]) (rest := [.int x11]) ⟨hx, hb, hml, hown, hts⟩ (m_X3_accountedFor l dC dI ca ad hI M 3 hOk) (cwV 1 hts gX8_isClosed_X3_accountedFor rfl rfl rfl (by decide +kernel) ⟨Nat.le_of_ble_eq_true rfl, Nat.le_of_ble_eq_true rfl⟩) (z_recv (ci := 3) (i := 0) hK hH zk_0 (by decide) rfl) hH hK hN zw_nest_ok rfl hl.1 rfl (Nat.le_of_ble_eq_true rfl) dX8_isClosed_90 ⟨Nat.le_refl _, Nat.le_refl _⟩ hS (fun _ h => Or.inl h) (fun H locs hB1 oq1 hz1 hS => ?_)
      have hT := zT_c hT oq1 hq.a1
      have hG := zW_c hG oq1 hq.x
      have hH := hB1
      refine lv_topi (fun x12 ex12 => ?_)
      have J15 : ∀ x14 : Int32, x14 = (if ¬ x11 = x12 then 0 else 1) → ∀ ls : Array Slot, lv_has ls 2 [(0, .ref sf), (1, .int x3)] → W p l e (headSpec wsX8_isClosed ({ frames := 3, cells := 0, slots := 0, locals := 65 })).room s m ([.ref sf] : List Value).toArray below meth c H locs 0 0 (MQ below (z_Qi (rX8_isClosed M N ) (fun H => zT dC dI ca sf (ad 0) (ad2 0) H ∧ zW dC dI ca ad M H ∧ zW dC dI ca ad2 N H) (zA2 ad ad2)) ([.ref sf] : List Value).toArray s 0 0 (zA2 ad ad2)) (F0 m 101 ls [.int x14]) := by
        intro x14 ex14 ls hl
        exact J12 _ (by subst ex14; subst ex12; subst ex11; exact (if_neg (fun hh => hh c10)).symm) ls (lv_sub hl [0, 1] rfl) _ _ hT hH hG hS
      refine lv_icmp_ne (tgt := 100) hx hb dX8_isClosed_93 (by decide) (fun c13 => ?_) (fun c13 => ?_)
      · refine lv_iconst (v := 0) hx hb dX8_isClosed_100 (by decide) ?_
        exact J15 _ (by exact (if_pos c13).symm) ls (lv_sub hl [1, 0] rfl)
      · refine lv_iconst (v := 1) hx hb dX8_isClosed_96 (by decide) ?_
        refine lv_goto (tgt := 101) hx hb dX8_isClosed_97 (by decide) ?_
        exact J15 _ (by exact (if_neg (fun hh => hh c13)).symm) ls (lv_sub hl [1, 0] rfl)

def rX8_many (M : zM) (N : zM) (a0 : Int32) : Int32 :=

  if a0 = 0 then (let x2 : Int32 := M 0 10; x2) else if a0 = 1 then (let x4 : Int32 := M 0 11; x4) else if a0 = 2 then (let x6 : Int32 := M 0 12; x6) else if a0 = 3 then (let x8 : Int32 := M 0 13; x8) else if a0 = 4 then (let x10 : Int32 := M 0 14; x10) else if a0 = 5 then (let x12 : Int32 := rX3_light M ; x12) else if a0 = 6 then (let x14 : Int32 := rX3_lastShock M ; x14) else if a0 = 7 then (let x16 : Int32 := M 6 1; let x18 : Int32 := if x16 = 0 then 0 else 1; x18) else if a0 = 8 then (let x21 : Int32 := M 6 0; x21) else if a0 = 9 then (let x23 : Int32 := M 6 2; x23) else if a0 = 10 then (let x25 : Int32 := M 6 3; x25) else if a0 = 11 then (let x27 : Int32 := M 6 5; x27) else (let x28 : Int32 := rX3_lackedEver M ; x28)
set_option maxHeartbeats 4000000 in
set_option maxRecDepth 100000 in
theorem m_X8_many (l : Launch) (dC : Nat → ClassId) (dI : Nat → Nat → Nat) (ca : Nat → ClassId) (sf : Nat) (ad : Nat → Nat) (hI : z_I zd ad) (ad2 : Nat → Nat) (hI2 : z_I zd ad2) (hq : zSep sf ad ad2) (M : zM) (N : zM) (a0 : Int32) (hOk0 : z_Ok M) (r_a0 : z_rg a0 0 12) : Met l yX8_many wsX8_many ({ frames := 1, cells := 0, slots := 0, locals := 22 }) (z_Pc (dC, dI) vwCl (zt ca) zw_nest [.ref sf, .int a0] (fun H => zT dC dI ca sf (ad 0) (ad2 0) H ∧ zW dC dI ca ad M H ∧ zW dC dI ca ad2 N H)) (z_Qi (rX8_many M N a0) (fun H => zT dC dI ca sf (ad 0) (ad2 0) H ∧ zW dC dI ca ad M H ∧ zW dC dI ca ad2 N H) (zA2 ad ad2)) 0 0 (zA2 ad ad2) := by
  refine Met.ofW (cc := cX8_many) (maxL := 2) (ret := (some .int)) (by decide) rfl ?_
  intro p e s m args below meth c s₁ B9 hml hv
  obtain ⟨rfl, ⟨hT, hH, hG⟩, hK, hN⟩ := hv
  have hx := B9.exec
  have hb := B9.bytes
  have hr := B9.returns
  have hts := atoms_spec (ws := wsX8_many) B9.pre
  have hown : s.vm.findClass RX8 = some m.cls := findClass_of_methodNamed B9.named
  have hlocks := B9.notSynchronized
  have hS : va_S (zA2 ad ad2) s.heap s.heap [] := va_S.rf
  have hOk := hOk0
  have hFx : z_Fx M M := z_Fx.rf
  have hT : zT dC dI ca sf (ad 0) (ad2 0) s.heap := hT
  have hH : zW dC dI ca ad M s.heap := hH
  have hG : zW dC dI ca ad2 N s.heap := hG
  have hinX3 : ∀ w ∈ u_ws RX3 TX3 15, w ∈ wsX8_many := by decide +kernel
  have hinX4 : ∀ w ∈ u_ws RX4 TX4 6, w ∈ wsX8_many := by decide +kernel
  have hinX8 : ∀ w ∈ u_ws RX8 TX8 2, w ∈ wsX8_many := by decide +kernel
  have hl := lv_entry ([.ref sf, .int a0]) (n := 2) (Nat.le_of_ble_eq_true rfl)
  rw [lg_entry_eq]
  generalize (lg_sl ([.ref sf, .int a0]) ++ List.replicate (2 - (lg_sl ([.ref sf, .int a0])).length) Slot.unset).toArray = ls at hl ⊢
  have hl : lv_has ls 2 [(0, .ref sf), (1, .int a0)] := hl
  refine lv_iload_n hx hb dX8_many_0 rfl (lv_at hl 1 rfl) ?_
  refine lv_iconst (v := 0) hx hb dX8_many_1 (by decide) ?_
  refine lv_bipush (v := 12) hx hb dX8_many_2 (by decide) ?_
  refine z_cSv (D := (dC, dI)) (cl := vwCl) (tys := zt ca) (nw := zw_nest) (As := [.int a0, .int 0, .int 12]) (rest := []) ⟨hx, hb, hml, hown, hts⟩ (m_X8_needRange l dC dI ca (fun z : Heap => z = s.heap)  a0 0 12 r_a0) (cwS 3 hts gX8_many_X8_needRange rfl rfl rfl (by decide +kernel) ⟨Nat.le_of_ble_eq_true rfl, Nat.le_of_ble_eq_true rfl⟩) rfl hK hN zw_nest_ok rfl hl.1 rfl (Nat.le_of_ble_eq_true rfl) dX8_many_4 ⟨Nat.le_refl _, Nat.le_refl _⟩ hS (fun _ h => h.elim) (fun H locs hB1 oq1 hz1 hS => ?_)
  have hT : zT dC dI ca sf (ad 0) (ad2 0) H := by rw [hB1]; exact hT
  have hH : zW dC dI ca ad M H := by rw [hB1]; exact hH
  have hG : zW dC dI ca ad2 N H := by rw [hB1]; exact hG
  refine lv_iload_n hx hb dX8_many_7 rfl (lv_at hl 1 rfl) ?_
  by_cases c1 : a0 = 0
  · refine lv_tableIn (off := 64) (tgt := 72) hx hb dX8_many_8 (by rw [c1]; decide) (by rw [c1]; decide) (z_t c1 rfl) (by decide) ?_
    refine lv_aload_n hx hb dX8_many_72 rfl (lv_at hl 0 rfl) ?_
    refine z_gS (k := 0) (v := ad 0) hx hb hts hinX8 hown hK hT (by decide) rfl (hts (.fieldLink RX8 10 "Steamfield" "land" "LSteamfield$Land;") (by decide +kernel)) (fun _ h9 => h9) dX8_many_73 ?_
    refine z_giN (D := (dC, dI)) (cl := vwCl) (C := RX3) (T := TX3) (N := 15) (ci := 3) (k := 10) hx hb hts hinX3 hown hK hH zk_0 (by decide) rfl (by decide) rfl (hN (.fieldLinkNest RX8 23 "Steamfield$Land" "blockCount" "I" "Steamfield") (by decide +kernel)) (fun _ h9 => h9) dX8_many_76 ?_
    refine lv_topi (fun x2 ex2 => ?_)
    have hx2 : x2 = nI (zc10 M) := by rw [ex2, hFx.c10]; exact z_Ok.c10 hOk0
    have hR : x2 = rX8_many M N a0 := by subst ex2; exact ((if_pos c1).symm)
    exact W.iret (v := x2) hx hb hr (fun t ht hW => ⟨⟨x2, (), rfl, hR, z_to (B := fun H => zT dC dI ca sf (ad 0) (ad2 0) H ∧ zW dC dI ca ad M H ∧ zW dC dI ca ad2 N H) ht ⟨hT, hH, hG⟩⟩, hS.F ht⟩) hS.2.2 dX8_many_79
  by_cases c3 : a0 = 1
  · refine lv_tableIn (off := 72) (tgt := 80) hx hb dX8_many_8 (by rw [c3]; decide) (by rw [c3]; decide) (z_t c3 rfl) (by decide) ?_
    refine lv_aload_n hx hb dX8_many_80 rfl (lv_at hl 0 rfl) ?_
    refine z_gS (k := 0) (v := ad 0) hx hb hts hinX8 hown hK hT (by decide) rfl (hts (.fieldLink RX8 10 "Steamfield" "land" "LSteamfield$Land;") (by decide +kernel)) (fun _ h9 => h9) dX8_many_81 ?_
    refine z_giN (D := (dC, dI)) (cl := vwCl) (C := RX3) (T := TX3) (N := 15) (ci := 3) (k := 11) hx hb hts hinX3 hown hK hH zk_0 (by decide) rfl (by decide) rfl (hN (.fieldLinkNest RX8 81 "Steamfield$Land" "faceCount" "I" "Steamfield") (by decide +kernel)) (fun _ h9 => h9) dX8_many_84 ?_
    refine lv_topi (fun x4 ex4 => ?_)
    have hx4 : x4 = nI (zc11 M) := by rw [ex4, hFx.c11]; exact z_Ok.c11 hOk0
    have hR : x4 = rX8_many M N a0 := by subst ex4; exact (((if_pos c3).symm).trans (if_neg c1).symm)
    exact W.iret (v := x4) hx hb hr (fun t ht hW => ⟨⟨x4, (), rfl, hR, z_to (B := fun H => zT dC dI ca sf (ad 0) (ad2 0) H ∧ zW dC dI ca ad M H ∧ zW dC dI ca ad2 N H) ht ⟨hT, hH, hG⟩⟩, hS.F ht⟩) hS.2.2 dX8_many_87
  by_cases c5 : a0 = 2
  · refine lv_tableIn (off := 80) (tgt := 88) hx hb dX8_many_8 (by rw [c5]; decide) (by rw [c5]; decide) (z_t c5 rfl) (by decide) ?_
    refine lv_aload_n hx hb dX8_many_88 rfl (lv_at hl 0 rfl) ?_
    refine z_gS (k := 0) (v := ad 0) hx hb hts hinX8 hown hK hT (by decide) rfl (hts (.fieldLink RX8 10 "Steamfield" "land" "LSteamfield$Land;") (by decide +kernel)) (fun _ h9 => h9) dX8_many_89 ?_
    refine z_giN (D := (dC, dI)) (cl := vwCl) (C := RX3) (T := TX3) (N := 15) (ci := 3) (k := 12) hx hb hts hinX3 hown hK hH zk_0 (by decide) rfl (by decide) rfl (hN (.fieldLinkNest RX8 99 "Steamfield$Land" "wellCount" "I" "Steamfield") (by decide +kernel)) (fun _ h9 => h9) dX8_many_92 ?_
    refine lv_topi (fun x6 ex6 => ?_)
    have hx6 : x6 = nI (zc12 M) := by rw [ex6, hFx.c12]; exact z_Ok.c12 hOk0
    have hR : x6 = rX8_many M N a0 := by subst ex6; exact ((((if_pos c5).symm).trans (if_neg c3).symm).trans (if_neg c1).symm)
    exact W.iret (v := x6) hx hb hr (fun t ht hW => ⟨⟨x6, (), rfl, hR, z_to (B := fun H => zT dC dI ca sf (ad 0) (ad2 0) H ∧ zW dC dI ca ad M H ∧ zW dC dI ca ad2 N H) ht ⟨hT, hH, hG⟩⟩, hS.F ht⟩) hS.2.2 dX8_many_95
  by_cases c7 : a0 = 3
  · refine lv_tableIn (off := 88) (tgt := 96) hx hb dX8_many_8 (by rw [c7]; decide) (by rw [c7]; decide) (z_t c7 rfl) (by decide) ?_
    refine lv_aload_n hx hb dX8_many_96 rfl (lv_at hl 0 rfl) ?_
    refine z_gS (k := 0) (v := ad 0) hx hb hts hinX8 hown hK hT (by decide) rfl (hts (.fieldLink RX8 10 "Steamfield" "land" "LSteamfield$Land;") (by decide +kernel)) (fun _ h9 => h9) dX8_many_97 ?_
    refine z_giN (D := (dC, dI)) (cl := vwCl) (C := RX3) (T := TX3) (N := 15) (ci := 3) (k := 13) hx hb hts hinX3 hown hK hH zk_0 (by decide) rfl (by decide) rfl (hN (.fieldLinkNest RX8 115 "Steamfield$Land" "springCount" "I" "Steamfield") (by decide +kernel)) (fun _ h9 => h9) dX8_many_100 ?_
    refine lv_topi (fun x8 ex8 => ?_)
    have hx8 : x8 = nI (zc13 M) := by rw [ex8, hFx.c13]; exact z_Ok.c13 hOk0
    have hR : x8 = rX8_many M N a0 := by subst ex8; exact (((((if_pos c7).symm).trans (if_neg c5).symm).trans (if_neg c3).symm).trans (if_neg c1).symm)
    exact W.iret (v := x8) hx hb hr (fun t ht hW => ⟨⟨x8, (), rfl, hR, z_to (B := fun H => zT dC dI ca sf (ad 0) (ad2 0) H ∧ zW dC dI ca ad M H ∧ zW dC dI ca ad2 N H) ht ⟨hT, hH, hG⟩⟩, hS.F ht⟩) hS.2.2 dX8_many_103
  by_cases c9 : a0 = 4
  · refine lv_tableIn (off := 96) (tgt := 104) hx hb dX8_many_8 (by rw [c9]; decide) (by rw [c9]; decide) (z_t c9 rfl) (by decide) ?_
    refine lv_aload_n hx hb dX8_many_104 rfl (lv_at hl 0 rfl) ?_
    refine z_gS (k := 0) (v := ad 0) hx hb hts hinX8 hown hK hT (by decide) rfl (hts (.fieldLink RX8 10 "Steamfield" "land" "LSteamfield$Land;") (by decide +kernel)) (fun _ h9 => h9) dX8_many_105 ?_
    refine z_giN (D := (dC, dI)) (cl := vwCl) (C := RX3) (T := TX3) (N := 15) (ci := 3) (k := 14) hx hb hts hinX3 hown hK hH zk_0 (by decide) rfl (by decide) rfl (hN (.fieldLinkNest RX8 227 "Steamfield$Land" "now" "I" "Steamfield") (by decide +kernel)) (fun _ h9 => h9) dX8_many_108 ?_
    refine lv_topi (fun x10 ex10 => ?_)
    have hR : x10 = rX8_many M N a0 := by subst ex10; exact ((((((if_pos c9).symm).trans (if_neg c7).symm).trans (if_neg c5).symm).trans (if_neg c3).symm).trans (if_neg c1).symm)
    exact W.iret (v := x10) hx hb hr (fun t ht hW => ⟨⟨x10, (), rfl, hR, z_to (B := fun H => zT dC dI ca sf (ad 0) (ad2 0) H ∧ zW dC dI ca ad M H ∧ zW dC dI ca ad2 N H) ht ⟨hT, hH, hG⟩⟩, hS.F ht⟩) hS.2.2 dX8_many_111
  by_cases c11 : a0 = 5
  · refine lv_tableIn (off := 104) (tgt := 112) hx hb dX8_many_8 (by rw [c11]; decide) (by rw [c11]; decide) (z_t c11 rfl) (by decide) ?_
    refine lv_aload_n hx hb dX8_many_112 rfl (lv_at hl 0 rfl) ?_
    refine z_gS (k := 0) (v := ad 0) hx hb hts hinX8 hown hK hT (by decide) rfl (hts (.fieldLink RX8 10 "Steamfield" "land" "LSteamfield$Land;") (by decide +kernel)) (fun _ h9 => h9) dX8_many_113 ?_
    refine z_cVi (D := (dC, dI)) (cl := vwCl) (tys := zt ca) (nw := zw_nest) (C := RX3) (As := []) (rest := []) ⟨hx, hb, hml, hown, hts⟩ (m_X3_light l dC dI ca ad hI M ) (cwV 0 hts gX8_many_X3_light rfl rfl rfl (by decide +kernel) ⟨Nat.le_of_ble_eq_true rfl, Nat.le_of_ble_eq_true rfl⟩) (z_recv (ci := 3) (i := 0) hK hH zk_0 (by decide) rfl) hH hK hN zw_nest_ok rfl hl.1 rfl (Nat.le_of_ble_eq_true rfl) dX8_many_116 ⟨Nat.le_refl _, Nat.le_refl _⟩ hS (fun _ h => Or.inl h) (fun H locs hB1 oq1 hz1 hS => ?_)
    have hT := zT_c hT oq1 hq.a1
    have hG := zW_c hG oq1 hq.x
    have hH := hB1
    refine lv_topi (fun x12 ex12 => ?_)
    have hR : x12 = rX8_many M N a0 := by subst ex12; exact (((((((if_pos c11).symm).trans (if_neg c9).symm).trans (if_neg c7).symm).trans (if_neg c5).symm).trans (if_neg c3).symm).trans (if_neg c1).symm)
    exact W.iret (v := x12) hx hb hr (fun t ht hW => ⟨⟨x12, (), rfl, hR, z_to (B := fun H => zT dC dI ca sf (ad 0) (ad2 0) H ∧ zW dC dI ca ad M H ∧ zW dC dI ca ad2 N H) ht ⟨hT, hH, hG⟩⟩, hS.F ht⟩) hS.2.2 dX8_many_119
  by_cases c13 : a0 = 6
  · refine lv_tableIn (off := 112) (tgt := 120) hx hb dX8_many_8 (by rw [c13]; decide) (by rw [c13]; decide) (z_t c13 rfl) (by decide) ?_
    refine lv_aload_n hx hb dX8_many_120 rfl (lv_at hl 0 rfl) ?_
    refine z_gS (k := 0) (v := ad 0) hx hb hts hinX8 hown hK hT (by decide) rfl (hts (.fieldLink RX8 10 "Steamfield" "land" "LSteamfield$Land;") (by decide +kernel)) (fun _ h9 => h9) dX8_many_121 ?_
    refine z_cVi (D := (dC, dI)) (cl := vwCl) (tys := zt ca) (nw := zw_nest) (C := RX3) (As := []) (rest := []) ⟨hx, hb, hml, hown, hts⟩ (m_X3_lastShock l dC dI ca ad hI M ) (cwV 0 hts gX8_many_X3_lastShock rfl rfl rfl (by decide +kernel) ⟨Nat.le_of_ble_eq_true rfl, Nat.le_of_ble_eq_true rfl⟩) (z_recv (ci := 3) (i := 0) hK hH zk_0 (by decide) rfl) hH hK hN zw_nest_ok rfl hl.1 rfl (Nat.le_of_ble_eq_true rfl) dX8_many_124 ⟨Nat.le_refl _, Nat.le_refl _⟩ hS (fun _ h => Or.inl h) (fun H locs hB1 oq1 hz1 hS => ?_)
    have hT := zT_c hT oq1 hq.a1
    have hG := zW_c hG oq1 hq.x
    have hH := hB1
    refine lv_topi (fun x14 ex14 => ?_)
    have hR : x14 = rX8_many M N a0 := by subst ex14; exact ((((((((if_pos c13).symm).trans (if_neg c11).symm).trans (if_neg c9).symm).trans (if_neg c7).symm).trans (if_neg c5).symm).trans (if_neg c3).symm).trans (if_neg c1).symm)
    exact W.iret (v := x14) hx hb hr (fun t ht hW => ⟨⟨x14, (), rfl, hR, z_to (B := fun H => zT dC dI ca sf (ad 0) (ad2 0) H ∧ zW dC dI ca ad M H ∧ zW dC dI ca ad2 N H) ht ⟨hT, hH, hG⟩⟩, hS.F ht⟩) hS.2.2 dX8_many_127
  by_cases c15 : a0 = 7
  · refine lv_tableIn (off := 120) (tgt := 128) hx hb dX8_many_8 (by rw [c15]; decide) (by rw [c15]; decide) (z_t c15 rfl) (by decide) ?_
    refine lv_aload_n hx hb dX8_many_128 rfl (lv_at hl 0 rfl) ?_
    refine z_gS (k := 0) (v := ad 0) hx hb hts hinX8 hown hK hT (by decide) rfl (hts (.fieldLink RX8 10 "Steamfield" "land" "LSteamfield$Land;") (by decide +kernel)) (fun _ h9 => h9) dX8_many_129 ?_
    refine z_grN (D := (dC, dI)) (cl := vwCl) (C := RX3) (T := TX3) (N := 15) (ci := 3) (k := 5) hx hb hts hinX3 hown hK hH zk_0 (by decide) rfl (by decide) rfl (zr_0 (k := 5) (by decide)) (hN (.fieldLinkNest RX8 154 "Steamfield$Land" "plant" "LSteamfield$Plant;" "Steamfield") (by decide +kernel)) (fun _ h9 => h9) dX8_many_132 ?_
    refine z_giN (D := (dC, dI)) (cl := vwCl) (C := RX4) (T := TX4) (N := 6) (ci := 4) (k := 1) hx hb hts hinX4 hown hK hH zk_6 (by decide) rfl (by decide) rfl (hN (.fieldLinkNest RX8 163 "Steamfield$Plant" "isRunning" "Z" "Steamfield") (by decide +kernel)) (fun _ h9 => h9) dX8_many_135 ?_
    refine lv_topi (fun x16 ex16 => ?_)
    have J19 : ∀ x18 : Int32, x18 = (if x16 = 0 then 0 else 1) → ∀ ls : Array Slot, lv_has ls 2 [(0, .ref sf), (1, .int a0)] → W p l e (headSpec wsX8_many ({ frames := 1, cells := 0, slots := 0, locals := 22 })).room s m ([.ref sf, .int a0] : List Value).toArray below meth c H locs 0 0 (MQ below (z_Qi (rX8_many M N a0) (fun H => zT dC dI ca sf (ad 0) (ad2 0) H ∧ zW dC dI ca ad M H ∧ zW dC dI ca ad2 N H) (zA2 ad ad2)) ([.ref sf, .int a0] : List Value).toArray s 0 0 (zA2 ad ad2)) (F0 m 146 ls [.int x18]) := by
      intro x18 ex18 ls hl
      have hR : x18 = rX8_many M N a0 := by subst ex18; subst ex16; exact (((((((((if_pos c15).symm).trans (if_neg c13).symm).trans (if_neg c11).symm).trans (if_neg c9).symm).trans (if_neg c7).symm).trans (if_neg c5).symm).trans (if_neg c3).symm).trans (if_neg c1).symm)
      exact W.iret (v := x18) hx hb hr (fun t ht hW => ⟨⟨x18, (), rfl, hR, z_to (B := fun H => zT dC dI ca sf (ad 0) (ad2 0) H ∧ zW dC dI ca ad M H ∧ zW dC dI ca ad2 N H) ht ⟨hT, hH, hG⟩⟩, hS.F ht⟩) hS.2.2 dX8_many_146
    refine lv_if_eq (tgt := 145) hx hb dX8_many_138 (by decide) (fun c17 => ?_) (fun c17 => ?_)
    · refine lv_iconst (v := 0) hx hb dX8_many_145 (by decide) ?_
      exact J19 _ (by exact (if_pos c17).symm) ls (lv_sub hl [0, 1] rfl)
    · refine lv_iconst (v := 1) hx hb dX8_many_141 (by decide) ?_
      refine lv_goto (tgt := 146) hx hb dX8_many_142 (by decide) ?_
      exact J19 _ (by exact (if_neg c17).symm) ls (lv_sub hl [0, 1] rfl)
  by_cases c20 : a0 = 8
  · refine lv_tableIn (off := 139) (tgt := 147) hx hb dX8_many_8 (by rw [c20]; decide) (by rw [c20]; decide) (z_t c20 rfl) (by decide) ?_
    refine lv_aload_n hx hb dX8_many_147 rfl (lv_at hl 0 rfl) ?_
    refine z_gS (k := 0) (v := ad 0) hx hb hts hinX8 hown hK hT (by decide) rfl (hts (.fieldLink RX8 10 "Steamfield" "land" "LSteamfield$Land;") (by decide +kernel)) (fun _ h9 => h9) dX8_many_148 ?_
    refine z_grN (D := (dC, dI)) (cl := vwCl) (C := RX3) (T := TX3) (N := 15) (ci := 3) (k := 5) hx hb hts hinX3 hown hK hH zk_0 (by decide) rfl (by decide) rfl (zr_0 (k := 5) (by decide)) (hN (.fieldLinkNest RX8 154 "Steamfield$Land" "plant" "LSteamfield$Plant;" "Steamfield") (by decide +kernel)) (fun _ h9 => h9) dX8_many_151 ?_
    refine z_giN (D := (dC, dI)) (cl := vwCl) (C := RX4) (T := TX4) (N := 6) (ci := 4) (k := 0) hx hb hts hinX4 hown hK hH zk_6 (by decide) rfl (by decide) rfl (hN (.fieldLinkNest RX8 158 "Steamfield$Plant" "size" "I" "Steamfield") (by decide +kernel)) (fun _ h9 => h9) dX8_many_154 ?_
    refine lv_topi (fun x21 ex21 => ?_)
    have hR : x21 = rX8_many M N a0 := by subst ex21; exact ((((((((((if_pos c20).symm).trans (if_neg c15).symm).trans (if_neg c13).symm).trans (if_neg c11).symm).trans (if_neg c9).symm).trans (if_neg c7).symm).trans (if_neg c5).symm).trans (if_neg c3).symm).trans (if_neg c1).symm)
    exact W.iret (v := x21) hx hb hr (fun t ht hW => ⟨⟨x21, (), rfl, hR, z_to (B := fun H => zT dC dI ca sf (ad 0) (ad2 0) H ∧ zW dC dI ca ad M H ∧ zW dC dI ca ad2 N H) ht ⟨hT, hH, hG⟩⟩, hS.F ht⟩) hS.2.2 dX8_many_157
  by_cases c22 : a0 = 9
  · refine lv_tableIn (off := 150) (tgt := 158) hx hb dX8_many_8 (by rw [c22]; decide) (by rw [c22]; decide) (z_t c22 rfl) (by decide) ?_
    refine lv_aload_n hx hb dX8_many_158 rfl (lv_at hl 0 rfl) ?_
    refine z_gS (k := 0) (v := ad 0) hx hb hts hinX8 hown hK hT (by decide) rfl (hts (.fieldLink RX8 10 "Steamfield" "land" "LSteamfield$Land;") (by decide +kernel)) (fun _ h9 => h9) dX8_many_159 ?_
    refine z_grN (D := (dC, dI)) (cl := vwCl) (C := RX3) (T := TX3) (N := 15) (ci := 3) (k := 5) hx hb hts hinX3 hown hK hH zk_0 (by decide) rfl (by decide) rfl (zr_0 (k := 5) (by decide)) (hN (.fieldLinkNest RX8 154 "Steamfield$Land" "plant" "LSteamfield$Plant;" "Steamfield") (by decide +kernel)) (fun _ h9 => h9) dX8_many_162 ?_
    refine z_giN (D := (dC, dI)) (cl := vwCl) (C := RX4) (T := TX4) (N := 6) (ci := 4) (k := 2) hx hb hts hinX4 hown hK hH zk_6 (by decide) rfl (by decide) rfl (hN (.fieldLinkNest RX8 236 "Steamfield$Plant" "power" "I" "Steamfield") (by decide +kernel)) (fun _ h9 => h9) dX8_many_165 ?_
    refine lv_topi (fun x23 ex23 => ?_)
    have hR : x23 = rX8_many M N a0 := by subst ex23; exact (((((((((((if_pos c22).symm).trans (if_neg c20).symm).trans (if_neg c15).symm).trans (if_neg c13).symm).trans (if_neg c11).symm).trans (if_neg c9).symm).trans (if_neg c7).symm).trans (if_neg c5).symm).trans (if_neg c3).symm).trans (if_neg c1).symm)
    exact W.iret (v := x23) hx hb hr (fun t ht hW => ⟨⟨x23, (), rfl, hR, z_to (B := fun H => zT dC dI ca sf (ad 0) (ad2 0) H ∧ zW dC dI ca ad M H ∧ zW dC dI ca ad2 N H) ht ⟨hT, hH, hG⟩⟩, hS.F ht⟩) hS.2.2 dX8_many_168
  by_cases c24 : a0 = 10
  · refine lv_tableIn (off := 161) (tgt := 169) hx hb dX8_many_8 (by rw [c24]; decide) (by rw [c24]; decide) (z_t c24 rfl) (by decide) ?_
    refine lv_aload_n hx hb dX8_many_169 rfl (lv_at hl 0 rfl) ?_
    refine z_gS (k := 0) (v := ad 0) hx hb hts hinX8 hown hK hT (by decide) rfl (hts (.fieldLink RX8 10 "Steamfield" "land" "LSteamfield$Land;") (by decide +kernel)) (fun _ h9 => h9) dX8_many_170 ?_
    refine z_grN (D := (dC, dI)) (cl := vwCl) (C := RX3) (T := TX3) (N := 15) (ci := 3) (k := 5) hx hb hts hinX3 hown hK hH zk_0 (by decide) rfl (by decide) rfl (zr_0 (k := 5) (by decide)) (hN (.fieldLinkNest RX8 154 "Steamfield$Land" "plant" "LSteamfield$Plant;" "Steamfield") (by decide +kernel)) (fun _ h9 => h9) dX8_many_173 ?_
    refine z_giN (D := (dC, dI)) (cl := vwCl) (C := RX4) (T := TX4) (N := 6) (ci := 4) (k := 3) hx hb hts hinX4 hown hK hH zk_6 (by decide) rfl (by decide) rfl (hN (.fieldLinkNest RX8 239 "Steamfield$Plant" "powerEver" "I" "Steamfield") (by decide +kernel)) (fun _ h9 => h9) dX8_many_176 ?_
    refine lv_topi (fun x25 ex25 => ?_)
    have hR : x25 = rX8_many M N a0 := by subst ex25; exact ((((((((((((if_pos c24).symm).trans (if_neg c22).symm).trans (if_neg c20).symm).trans (if_neg c15).symm).trans (if_neg c13).symm).trans (if_neg c11).symm).trans (if_neg c9).symm).trans (if_neg c7).symm).trans (if_neg c5).symm).trans (if_neg c3).symm).trans (if_neg c1).symm)
    exact W.iret (v := x25) hx hb hr (fun t ht hW => ⟨⟨x25, (), rfl, hR, z_to (B := fun H => zT dC dI ca sf (ad 0) (ad2 0) H ∧ zW dC dI ca ad M H ∧ zW dC dI ca ad2 N H) ht ⟨hT, hH, hG⟩⟩, hS.F ht⟩) hS.2.2 dX8_many_179
  by_cases c26 : a0 = 11
  · refine lv_tableIn (off := 172) (tgt := 180) hx hb dX8_many_8 (by rw [c26]; decide) (by rw [c26]; decide) (z_t c26 rfl) (by decide) ?_
    refine lv_aload_n hx hb dX8_many_180 rfl (lv_at hl 0 rfl) ?_
    refine z_gS (k := 0) (v := ad 0) hx hb hts hinX8 hown hK hT (by decide) rfl (hts (.fieldLink RX8 10 "Steamfield" "land" "LSteamfield$Land;") (by decide +kernel)) (fun _ h9 => h9) dX8_many_181 ?_
    refine z_grN (D := (dC, dI)) (cl := vwCl) (C := RX3) (T := TX3) (N := 15) (ci := 3) (k := 5) hx hb hts hinX3 hown hK hH zk_0 (by decide) rfl (by decide) rfl (zr_0 (k := 5) (by decide)) (hN (.fieldLinkNest RX8 154 "Steamfield$Land" "plant" "LSteamfield$Plant;" "Steamfield") (by decide +kernel)) (fun _ h9 => h9) dX8_many_184 ?_
    refine z_giN (D := (dC, dI)) (cl := vwCl) (C := RX4) (T := TX4) (N := 6) (ci := 4) (k := 5) hx hb hts hinX4 hown hK hH zk_6 (by decide) rfl (by decide) rfl (hN (.fieldLinkNest RX8 242 "Steamfield$Plant" "townHeat" "I" "Steamfield") (by decide +kernel)) (fun _ h9 => h9) dX8_many_187 ?_
    refine lv_topi (fun x27 ex27 => ?_)
    have hR : x27 = rX8_many M N a0 := by subst ex27; exact (((((((((((((if_pos c26).symm).trans (if_neg c24).symm).trans (if_neg c22).symm).trans (if_neg c20).symm).trans (if_neg c15).symm).trans (if_neg c13).symm).trans (if_neg c11).symm).trans (if_neg c9).symm).trans (if_neg c7).symm).trans (if_neg c5).symm).trans (if_neg c3).symm).trans (if_neg c1).symm)
    exact W.iret (v := x27) hx hb hr (fun t ht hW => ⟨⟨x27, (), rfl, hR, z_to (B := fun H => zT dC dI ca sf (ad 0) (ad2 0) H ∧ zW dC dI ca ad M H ∧ zW dC dI ca ad2 N H) ht ⟨hT, hH, hG⟩⟩, hS.F ht⟩) hS.2.2 dX8_many_190
  refine lv_tableOut (tgt := 191) hx hb dX8_many_8 (z_tout12 c1 c3 c5 c7 c9 c11 c13 c15 c20 c22 c24 c26) (by decide) ?_
  refine lv_aload_n hx hb dX8_many_191 rfl (lv_at hl 0 rfl) ?_
  refine z_gS (k := 0) (v := ad 0) hx hb hts hinX8 hown hK hT (by decide) rfl (hts (.fieldLink RX8 10 "Steamfield" "land" "LSteamfield$Land;") (by decide +kernel)) (fun _ h9 => h9) dX8_many_192 ?_
  refine z_cVi (D := (dC, dI)) (cl := vwCl) (tys := zt ca) (nw := zw_nest) (C := RX3) (As := []) (rest := []) ⟨hx, hb, hml, hown, hts⟩ (m_X3_lackedEver l dC dI ca ad hI M hOk) (cwV 0 hts gX8_many_X3_lackedEver rfl rfl rfl (by decide +kernel) ⟨Nat.le_of_ble_eq_true rfl, Nat.le_of_ble_eq_true rfl⟩) (z_recv (ci := 3) (i := 0) hK hH zk_0 (by decide) rfl) hH hK hN zw_nest_ok rfl hl.1 rfl (Nat.le_of_ble_eq_true rfl) dX8_many_195 ⟨Nat.le_refl _, Nat.le_refl _⟩ hS (fun _ h => Or.inl h) (fun H locs hB1 oq1 hz1 hS => ?_)
  have hT := zT_c hT oq1 hq.a1
  have hG := zW_c hG oq1 hq.x
  have hH := hB1
  refine lv_topi (fun x28 ex28 => ?_)
  have hR : x28 = rX8_many M N a0 := by subst ex28; exact (((((((((((((if_neg c26).symm).trans (if_neg c24).symm).trans (if_neg c22).symm).trans (if_neg c20).symm).trans (if_neg c15).symm).trans (if_neg c13).symm).trans (if_neg c11).symm).trans (if_neg c9).symm).trans (if_neg c7).symm).trans (if_neg c5).symm).trans (if_neg c3).symm).trans (if_neg c1).symm)
  exact W.iret (v := x28) hx hb hr (fun t ht hW => ⟨⟨x28, (), rfl, hR, z_to (B := fun H => zT dC dI ca sf (ad 0) (ad2 0) H ∧ zW dC dI ca ad M H ∧ zW dC dI ca ad2 N H) ht ⟨hT, hH, hG⟩⟩, hS.F ht⟩) hS.2.2 dX8_many_198

