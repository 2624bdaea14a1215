def zSe : zD := (fun _ => 999, fun _ _ => none, fun _ => 0)
theorem zad_cs {h0 sz i : Nat} (hi : zk i < 200) : zad h0 sz i = h0 ∨ (sz ≤ zad h0 sz i ∧ zad h0 sz i < sz + 50) := by
  by_cases e : i = 0
  · subst e; exact Or.inl rfl
  · exact Or.inr (zad_rng hi e)
theorem zSe_in {wd : zD} (h : ∀ a, wd.1 a < 200 → a = 0) {ad : Nat → Nat} : ∀ a, wd.1 a < 200 → ad a = ad 0 → a = 0 := fun a ha _ => h a ha
theorem zSe_8 : ∀ a, (zdk zSe 0 8).1 a < 200 → a = 0 := fun a ha => by
  by_cases e : a = 0
  · exact e
  · rw [show (zdk zSe 0 8).1 a = 999 from if_neg e] at ha; omega
theorem zdS_ok : ∀ i, zdS.1 i < 200 → zdS.1 i = (zdr (zdr (zdk zSe 0 8) 0 0 1) 0 1 2).1 i ∧ (∀ k, zdS.2.1 i k = (zdr (zdr (zdk zSe 0 8) 0 0 1) 0 1 2).2.1 i k) ∧ zdS.2.2 i = (zdr (zdr (zdk zSe 0 8) 0 0 1) 0 1 2).2.2 i := by
  intro i hi
  have e : i = 0 := by
    by_cases e : i = 0
    · exact e
    · simp [zdS, e] at hi
  subst e
  refine ⟨rfl, fun k => ?_, rfl⟩
  by_cases h : k < 2
  · rcases (show k = 0 ∨ k = 1 by omega) with h | h <;> subst h <;> rfl
  · have e1 : zdS.2.1 0 k = none := by simp [zdS, h]
    rw [e1]
    simp only [zdr, zdk, zSe]
    rw [if_neg (by omega), if_neg (by omega)]
set_option maxHeartbeats 4000000 in
set_option maxRecDepth 100000 in
theorem m_X8_init (l : Launch) (dC : Nat → ClassId) (dI : Nat → Nat → Nat) (ca : Nat → ClassId) (sf sz : Nat) (hl0 : sf < sz) : Met l yX8_init wsX8_init ({ frames := 4, cells := 102, slots := 520, locals := 74 }) (z_Pn (dC, dI) vwCl (zt ca) zw_nest [.ref sf] (fun H => H.size = sz + 0 ∧ z_H (dC, dI) vwCl zf ca (zdk zSe 0 8) (zs sf sz (sz + 51)) zM0 H)) (z_Qv (fun H => H.size = sz + 102 ∧ zT dC dI ca sf sz (sz + 51) H ∧ zW dC dI ca (zad sz (sz + 1)) zMi H ∧ zW dC dI ca (zad (sz + 51) (sz + 52)) zMi H) (fun q => q = sf ∨ sz ≤ q)) 102 520 (fun q => q = sf ∨ sz ≤ q) := by
  refine Met.ofW (cc := cX8_init) (maxL := 1) (ret := none) (by decide) rfl ?_
  intro p e s m args below meth c s₁ B9 hml hv
  obtain ⟨rfl, ⟨hz, hT⟩, hK, hN, hX⟩ := hv
  have hx := B9.exec
  have hb := B9.bytes
  have hr := B9.returns
  have hts := atoms_spec (ws := wsX8_init) B9.pre
  have hown : s.vm.findClass RX8 = some m.cls := findClass_of_methodNamed B9.named
  have hlocks := B9.notSynchronized
  have hin2 : meth.name = "<init>" := (name_of_methodNamed B9.named B9.method).1
  have hS : va_S (fun q => q = sf ∨ sz ≤ q) s.heap s.heap [] := va_S.rf
  have hA : ∀ q, s.heap.size ≤ q → (fun q => q = sf ∨ sz ≤ q) q := fun q h => Or.inr (by rw [hz] at h; exact h)
  have hinX3 : ∀ w ∈ u_ws RX3 TX3 15, w ∈ wsX8_init := by decide +kernel
  have hinX8 : ∀ w ∈ u_ws RX8 TX8 2, w ∈ wsX8_init := by decide +kernel
  have hl := lv_entry ([.ref sf]) (n := 1) (Nat.le_of_ble_eq_true rfl)
  rw [lg_entry_eq]
  generalize (lg_sl ([.ref sf]) ++ List.replicate (1 - (lg_sl ([.ref sf])).length) Slot.unset).toArray = ls at hl ⊢
  have hl : lv_has ls 1 [(0, .ref (sf))] := hl
  refine lv_aload_n hx hb dX8_init_0 rfl (lv_at hl 0 rfl) ?_
  refine W.objInit hx hb hown (hts (.methodLink RX8 1 objectInit) (by decide +kernel)) (hts (.instanceMethod objectInit) (by decide +kernel)) (hts _ (List.mem_of_getElem? (i := 3) rfl)) rfl (by rw [hml]; exact hl.1) rfl dX8_init_1 (Nat.le_of_ble_eq_true rfl) (Nat.le_of_ble_eq_true rfl) ?_
  refine W.eq (g2 := F0 m 4 ls []) rfl ?_
  refine lv_aload_n hx hb dX8_init_4 rfl (lv_at hl 0 rfl) ?_
  have hH : z_H (dC, dI) vwCl zf ca zde (zad sz (sz + 1)) zM0 s.heap := fun i hi => absurd hi (by show ¬ (999 < 200); decide)
  refine z_new (D := (dC, dI)) (cl := vwCl) (fl := zf) (ca := ca) (ad := (zad sz (sz + 1))) (C := RX3) (T := TX3) (N := 15) (ci := 3) (i := 0) hx hb hts hinX3 tyX3 tyX3_ok hown (hts (.classLink RX8 7 RX3) (by decide +kernel)) (hts (.instantiable RX3 15) (by decide +kernel)) (hts (.initialized RX3) (by decide +kernel)) hK hH hS hA rfl (by decide) (by rw [hz]; rfl) (fun _ => rfl) (fun _ => rfl) (z_born 3 tyX3 15 (by decide)) (Nat.le_of_ble_eq_true rfl) (Nat.le_of_ble_eq_true rfl) dX8_init_5 (fun H hH z1 o1 hS => ?_)
  have hz : H.size = sz + 1 := by omega
  have hT := hT.kept (fun i hi => o1 _ (hT.lt hi))
  refine lv_dup hx hb dX8_init_8 rfl ?_
  refine z_cIP (D := (dC, dI)) (cl := vwCl) (tys := zt ca) (nw := zw_nest) (As := []) (rest := [.ref ((zad sz (sz + 1)) 0), .ref sf]) ⟨hx, hb, hml, hown, hts⟩ (m_X3_init l dC dI ca sz (sz + 1) (by omega)) (cwI 0 hts gX8_init_X3_init rfl rfl rfl (hts (.initialized RX3) (by decide +kernel)) (hts (.methodLink RX8 9 yX3_init) (by decide +kernel)) (hts (.instanceMethod yX3_init) (by decide +kernel)) rfl (by decide +kernel) ⟨Nat.le_of_ble_eq_true rfl, Nat.le_of_ble_eq_true rfl⟩) ⟨by rw [hz], hH⟩ hK hN hX zw_nest_ok rfl hl.1 rfl (Nat.le_of_ble_eq_true rfl) dX8_init_9 ⟨Nat.le_of_ble_eq_true rfl, Nat.le_of_ble_eq_true rfl⟩ hS (by rintro q (h9 | h9) <;> exact Or.inr (by omega)) (fun H locs hB1 oq1 hz1 hS => ?_)
  have hT := hT.kept (fun i hi => oq1 _ (hT.lt hi) (by rw [(show _ = 0 from zSe_8 i hi)]; show ¬ (sf = _ ∨ _ ≤ sf); omega))
  obtain ⟨hz, hL⟩ := hB1
  have hz : H.size = sz + 51 := by omega
  have hH := hT
  refine z_prF (D := (dC, dI)) (cl := vwCl) (fl := zf) (ca := ca) (ad := (zs sf sz (sz + 51))) (C := RX8) (T := TX8) (N := 2) (ci := 8) (i := 0) (k := 0) (j := 1) (ty := tyX8 0) hx hb hts hinX8 tyX8 tyX8_ok nmX8 hown hK hH (zSe_in zSe_8) hS (Or.inl rfl) rfl (by decide) rfl (by decide) rfl (hts (.fieldLink RX8 10 "Steamfield" "land" "LSteamfield$Land;") (by decide +kernel)) (fun _ h9 => h9) rfl hin2 rfl (tyX8_ok 0 (by decide)) rfl rfl dX8_init_12 (fun H locs hH z2 oq hS => ?_)
  have hz : H.size = sz + 51 := by omega
  have hT := hH
  have hL := hL.kept (fun i hi => oq _ (by have := zad_cs (h0 := sz) (sz := sz + 1) hi; show _ ≠ sf; omega))
  refine lv_aload_n hx hb dX8_init_15 rfl (lv_at hl 0 rfl) ?_
  have hH : z_H (dC, dI) vwCl zf ca zde (zad (sz + 51) (sz + 52)) zM0 H := fun i hi => absurd hi (by show ¬ (999 < 200); decide)
  refine z_new (D := (dC, dI)) (cl := vwCl) (fl := zf) (ca := ca) (ad := (zad (sz + 51) (sz + 52))) (C := RX3) (T := TX3) (N := 15) (ci := 3) (i := 0) hx hb hts hinX3 tyX3 tyX3_ok hown (hts (.classLink RX8 7 RX3) (by decide +kernel)) (hts (.instantiable RX3 15) (by decide +kernel)) (hts (.initialized RX3) (by decide +kernel)) hK hH hS hA rfl (by decide) (by rw [hz]; rfl) (fun _ => rfl) (fun _ => rfl) (z_born 3 tyX3 15 (by decide)) (Nat.le_of_ble_eq_true rfl) (Nat.le_of_ble_eq_true rfl) dX8_init_16 (fun H hH z1 o1 hS => ?_)
  have hz : H.size = sz + 52 := by omega
  have hT := hT.kept (fun i hi => o1 _ (hT.lt hi))
  have hL := hL.kept (fun i hi => o1 _ (hL.lt hi))
  refine lv_dup hx hb dX8_init_19 rfl ?_
  refine z_cIP (D := (dC, dI)) (cl := vwCl) (tys := zt ca) (nw := zw_nest) (As := []) (rest := [.ref ((zad (sz + 51) (sz + 52)) 0), .ref sf]) ⟨hx, hb, hml, hown, hts⟩ (m_X3_init l dC dI ca (sz + 51) (sz + 52) (by omega)) (cwI 0 hts gX8_init_X3_init rfl rfl rfl (hts (.initialized RX3) (by decide +kernel)) (hts (.methodLink RX8 9 yX3_init) (by decide +kernel)) (hts (.instanceMethod yX3_init) (by decide +kernel)) rfl (by decide +kernel) ⟨Nat.le_of_ble_eq_true rfl, Nat.le_of_ble_eq_true rfl⟩) ⟨by rw [hz], hH⟩ hK hN hX zw_nest_ok rfl hl.1 rfl (Nat.le_of_ble_eq_true rfl) dX8_init_20 ⟨Nat.le_of_ble_eq_true rfl, Nat.le_of_ble_eq_true rfl⟩ hS (by rintro q (h9 | h9) <;> exact Or.inr (by omega)) (fun H locs hB1 oq1 hz1 hS => ?_)
  have hT := hT.kept (fun i hi => oq1 _ (hT.lt hi) (by rw [(show _ = 0 from zSe_8 i hi)]; show ¬ (sf = _ ∨ _ ≤ sf); omega))
  have hL := hL.kept (fun i hi => oq1 _ (hL.lt hi) (by have := zad_cs (h0 := sz) (sz := sz + 1) hi; omega))
  obtain ⟨hz, hG⟩ := hB1
  have hz : H.size = sz + 102 := by omega
  have hH := hT
  refine z_prF (D := (dC, dI)) (cl := vwCl) (fl := zf) (ca := ca) (ad := (zs sf sz (sz + 51))) (C := RX8) (T := TX8) (N := 2) (ci := 8) (i := 0) (k := 1) (j := 2) (ty := tyX8 1) hx hb hts hinX8 tyX8 tyX8_ok nmX8 hown hK hH (zSe_in zSe_8) hS (Or.inl rfl) rfl (by decide) rfl (by decide) rfl (hts (.fieldLink RX8 16 "Steamfield" "trial" "LSteamfield$Land;") (by decide +kernel)) (fun _ h9 => h9) rfl hin2 rfl (tyX8_ok 1 (by decide)) rfl rfl dX8_init_23 (fun H locs hH z2 oq hS => ?_)
  have hz : H.size = sz + 102 := by omega
  have hT := hH
  have hL := hL.kept (fun i hi => oq _ (by have := zad_cs (h0 := sz) (sz := sz + 1) hi; show _ ≠ sf; omega))
  have hG := hG.kept (fun i hi => oq _ (by have := zad_cs (h0 := sz + 51) (sz := sz + 52) hi; show _ ≠ sf; omega))
  exact W.vret hx hb hr (fun t ht hW => ⟨⟨(), rfl, trivial, z_to (B := (fun H => H.size = sz + 102 ∧ zT dC dI ca sf sz (sz + 51) H ∧ zW dC dI ca (zad sz (sz + 1)) zMi H ∧ zW dC dI ca (zad (sz + 51) (sz + 52)) zMi H)) ht ⟨hz, hT.desc zdS_ok, hL, hG⟩⟩, hS.F ht⟩) hS.2.2 dX8_init_26
