set_option maxHeartbeats 4000000 in
set_option maxRecDepth 100000 in
theorem m_X1_init (l : Launch) (dC : Nat → ClassId) (dI : Nat → Nat → Nat) (ca : Nat → ClassId) (wd : zD) (M : zM) (h0 sz0 sz : Nat) (hl0 : h0 < sz0) (hs : zsub wd) (h1 : wd.1 7 = 1) (e11 : zad h0 sz0 11 = sz + 0) (e12 : zad h0 sz0 12 = sz + 1) (e13 : zad h0 sz0 13 = sz + 2) (r11 : ∀ k, wd.2.1 11 k = none) (r12 : ∀ k, wd.2.1 12 k = none) (r13 : ∀ k, wd.2.1 13 k = none) (m11 : ∀ k, M 11 k = 0) (m12 : ∀ k, M 12 k = 0) (m13 : ∀ k, M 13 k = 0) : Met l yX1_init wsX1_init ({ frames := 2, cells := 3, slots := 12, locals := 32 }) (z_Pn (dC, dI) vwCl (zt ca) zw_nest [.ref (zad h0 sz0 7)] (fun H => H.size = sz + 0 ∧ z_H (dC, dI) vwCl zf ca wd (zad h0 sz0) M H)) (z_Qv (fun H => H.size = sz + 3 ∧ z_H (dC, dI) vwCl zf ca (zdr (zdk (zdr (zdk (zdr (zdk wd 11 6) 7 0 11) 12 6) 7 1 12) 13 6) 7 2 13) (zad h0 sz0) M H) (fun q => q = zad h0 sz0 7 ∨ sz ≤ q)) 3 12 (fun q => q = zad h0 sz0 7 ∨ sz ≤ q) := by
  refine Met.ofW (cc := cX1_init) (maxL := 1) (ret := none) (by decide) rfl ?_
  intro p e s m args below meth c s₁ B9 hml hv
  obtain ⟨rfl, ⟨hz, hH⟩, hK, hN, hX⟩ := hv
  have hx := B9.exec
  have hb := B9.bytes
  have hr := B9.returns
  have hts := atoms_spec (ws := wsX1_init) B9.pre
  have hown : s.vm.findClass RX1 = some m.cls := findClass_of_methodNamed B9.named
  have hlocks := B9.notSynchronized
  have hin2 : meth.name = "<init>" := (name_of_methodNamed B9.named B9.method).1
  have hS : va_S (fun q => q = zad h0 sz0 7 ∨ sz ≤ q) s.heap s.heap [] := va_S.rf
  have hA : ∀ q, s.heap.size ≤ q → (fun q => q = zad h0 sz0 7 ∨ sz ≤ q) q := fun q h => Or.inr (by rw [hz] at h; exact h)
  have hinX1 : ∀ w ∈ u_ws RX1 TX1 5, w ∈ wsX1_init := by decide +kernel
  have hinX6 : ∀ w ∈ u_ws RX6 TX6 4, w ∈ wsX1_init := by decide +kernel
  have hl := lv_entry ([.ref (zad h0 sz0 7)]) (n := 1) (Nat.le_of_ble_eq_true rfl)
  rw [lg_entry_eq]
  generalize (lg_sl ([.ref (zad h0 sz0 7)]) ++ List.replicate (1 - (lg_sl ([.ref (zad h0 sz0 7)])).length) Slot.unset).toArray = ls at hl ⊢
  have hl : lv_has ls 1 [(0, .ref (zad h0 sz0 7))] := hl
  refine lv_aload_n hx hb dX1_init_0 rfl (lv_at hl 0 rfl) ?_
  refine W.objInit hx hb hown (hts (.methodLink RX1 1 objectInit) (by decide +kernel)) (hts (.instanceMethod objectInit) (by decide +kernel)) (hts _ (List.mem_of_getElem? (i := 3) rfl)) rfl (by rw [hml]; exact hl.1) rfl dX1_init_1 (Nat.le_of_ble_eq_true rfl) (Nat.le_of_ble_eq_true rfl) ?_
  refine W.eq (g2 := F0 m 4 ls []) rfl ?_
  refine lv_aload_n hx hb dX1_init_4 rfl (lv_at hl 0 rfl) ?_
  refine z_new (D := (dC, dI)) (cl := vwCl) (fl := zf) (ca := ca) (ad := zad h0 sz0) (C := RX6) (T := TX6) (N := 4) (ci := 6) (i := 11) hx hb hts hinX6 tyX6 tyX6_ok hown (hts (.classLink RX1 7 RX6) (by decide +kernel)) (hts (.instantiable RX6 4) (by decide +kernel)) (hts (.initialized RX6) (by decide +kernel)) hK hH hS hA rfl (by decide) (by rw [hz]; exact e11) (r11) (m11) (z_born 6 tyX6 4 (by decide)) (Nat.le_of_ble_eq_true rfl) (Nat.le_of_ble_eq_true rfl) dX1_init_5 (fun H hH z1 o1 hS => ?_)
  have hz : H.size = sz + 1 := by omega
  have hs := hs.k 6 (i := 11) (by decide)
  refine lv_dup hx hb dX1_init_8 rfl ?_
  refine z_cIN (D := (dC, dI)) (cl := vwCl) (tys := zt ca) (nw := zw_nest) (As := []) (rest := [.ref (zad h0 sz0 11), .ref (zad h0 sz0 7)]) ⟨hx, hb, hml, hown, hts⟩ (m_X6_init l dC dI ca (fun z => z = H) (zad h0 sz0 11)) ⟨va_cnB 0 hts gX1_init_X6_init_n9 rfl rfl rfl (hN (.methodLinkNest RX1 9 yX6_init "Steamfield") (by decide +kernel)) (hts (.initialized RX6) (by decide +kernel)) (by decide +kernel) ⟨Nat.le_of_ble_eq_true rfl, Nat.le_of_ble_eq_true rfl⟩, rfl, hts (.instanceMethod yX6_init) (by decide +kernel)⟩ rfl hK hN hX zw_nest_ok rfl hl.1 rfl (Nat.le_of_ble_eq_true rfl) dX1_init_9 ⟨Nat.le_of_ble_eq_true rfl, Nat.le_of_ble_eq_true rfl⟩ hS (fun _ h => h.elim) (fun H locs hB1 oq1 hz1 hS => ?_)
  rw [← hB1] at hH hz
  refine z_prF (D := (dC, dI)) (cl := vwCl) (fl := zf) (ca := ca) (ad := zad h0 sz0) (C := RX1) (T := TX1) (N := 5) (ci := 1) (i := 7) (k := 0) (j := 11) (ty := tyX1 0) hx hb hts hinX1 tyX1 tyX1_ok nmX1 hown hK hH (hs.inj hl0 (by decide)) hS (Or.inl rfl) h1 (by decide) rfl (by decide) rfl (hts (.fieldLink RX1 10 "Steamfield$Books" "told" "LSteamfield$Water;") (by decide +kernel)) (fun _ h9 => h9) rfl hin2 rfl (tyX1_ok 0 (by decide)) rfl rfl dX1_init_12 (fun H locs hH z2 oq hS => ?_)
  have hz : H.size = sz + 1 := by omega
  have hs := hs.r 7 0 11
  refine lv_aload_n hx hb dX1_init_15 rfl (lv_at hl 0 rfl) ?_
  refine z_new (D := (dC, dI)) (cl := vwCl) (fl := zf) (ca := ca) (ad := zad h0 sz0) (C := RX6) (T := TX6) (N := 4) (ci := 6) (i := 12) hx hb hts hinX6 tyX6 tyX6_ok hown (hts (.classLink RX1 7 RX6) (by decide +kernel)) (hts (.instantiable RX6 4) (by decide +kernel)) (hts (.initialized RX6) (by decide +kernel)) hK hH hS hA rfl (by decide) (by rw [hz]; exact e12) (r12) (m12) (z_born 6 tyX6 4 (by decide)) (Nat.le_of_ble_eq_true rfl) (Nat.le_of_ble_eq_true rfl) dX1_init_16 (fun H hH z1 o1 hS => ?_)
  have hz : H.size = sz + 2 := by omega
  have hs := hs.k 6 (i := 12) (by decide)
  refine lv_dup hx hb dX1_init_19 rfl ?_
  refine z_cIN (D := (dC, dI)) (cl := vwCl) (tys := zt ca) (nw := zw_nest) (As := []) (rest := [.ref (zad h0 sz0 12), .ref (zad h0 sz0 7)]) ⟨hx, hb, hml, hown, hts⟩ (m_X6_init l dC dI ca (fun z => z = H) (zad h0 sz0 12)) ⟨va_cnB 0 hts gX1_init_X6_init_n9 rfl rfl rfl (hN (.methodLinkNest RX1 9 yX6_init "Steamfield") (by decide +kernel)) (hts (.initialized RX6) (by decide +kernel)) (by decide +kernel) ⟨Nat.le_of_ble_eq_true rfl, Nat.le_of_ble_eq_true rfl⟩, rfl, hts (.instanceMethod yX6_init) (by decide +kernel)⟩ rfl hK hN hX zw_nest_ok rfl hl.1 rfl (Nat.le_of_ble_eq_true rfl) dX1_init_20 ⟨Nat.le_of_ble_eq_true rfl, Nat.le_of_ble_eq_true rfl⟩ hS (fun _ h => h.elim) (fun H locs hB1 oq1 hz1 hS => ?_)
  rw [← hB1] at hH hz
  refine z_prF (D := (dC, dI)) (cl := vwCl) (fl := zf) (ca := ca) (ad := zad h0 sz0) (C := RX1) (T := TX1) (N := 5) (ci := 1) (i := 7) (k := 1) (j := 12) (ty := tyX1 1) hx hb hts hinX1 tyX1 tyX1_ok nmX1 hown hK hH (hs.inj hl0 (by decide)) hS (Or.inl rfl) h1 (by decide) rfl (by decide) rfl (hts (.fieldLink RX1 16 "Steamfield$Books" "spilled" "LSteamfield$Water;") (by decide +kernel)) (fun _ h9 => h9) rfl hin2 rfl (tyX1_ok 1 (by decide)) rfl rfl dX1_init_23 (fun H locs hH z2 oq hS => ?_)
  have hz : H.size = sz + 2 := by omega
  have hs := hs.r 7 1 12
  refine lv_aload_n hx hb dX1_init_26 rfl (lv_at hl 0 rfl) ?_
  refine z_new (D := (dC, dI)) (cl := vwCl) (fl := zf) (ca := ca) (ad := zad h0 sz0) (C := RX6) (T := TX6) (N := 4) (ci := 6) (i := 13) hx hb hts hinX6 tyX6 tyX6_ok hown (hts (.classLink RX1 7 RX6) (by decide +kernel)) (hts (.instantiable RX6 4) (by decide +kernel)) (hts (.initialized RX6) (by decide +kernel)) hK hH hS hA rfl (by decide) (by rw [hz]; exact e13) (r13) (m13) (z_born 6 tyX6 4 (by decide)) (Nat.le_of_ble_eq_true rfl) (Nat.le_of_ble_eq_true rfl) dX1_init_27 (fun H hH z1 o1 hS => ?_)
  have hz : H.size = sz + 3 := by omega
  have hs := hs.k 6 (i := 13) (by decide)
  refine lv_dup hx hb dX1_init_30 rfl ?_
  refine z_cIN (D := (dC, dI)) (cl := vwCl) (tys := zt ca) (nw := zw_nest) (As := []) (rest := [.ref (zad h0 sz0 13), .ref (zad h0 sz0 7)]) ⟨hx, hb, hml, hown, hts⟩ (m_X6_init l dC dI ca (fun z => z = H) (zad h0 sz0 13)) ⟨va_cnB 0 hts gX1_init_X6_init_n9 rfl rfl rfl (hN (.methodLinkNest RX1 9 yX6_init "Steamfield") (by decide +kernel)) (hts (.initialized RX6) (by decide +kernel)) (by decide +kernel) ⟨Nat.le_of_ble_eq_true rfl, Nat.le_of_ble_eq_true rfl⟩, rfl, hts (.instanceMethod yX6_init) (by decide +kernel)⟩ rfl hK hN hX zw_nest_ok rfl hl.1 rfl (Nat.le_of_ble_eq_true rfl) dX1_init_31 ⟨Nat.le_of_ble_eq_true rfl, Nat.le_of_ble_eq_true rfl⟩ hS (fun _ h => h.elim) (fun H locs hB1 oq1 hz1 hS => ?_)
  rw [← hB1] at hH hz
  refine z_prF (D := (dC, dI)) (cl := vwCl) (fl := zf) (ca := ca) (ad := zad h0 sz0) (C := RX1) (T := TX1) (N := 5) (ci := 1) (i := 7) (k := 2) (j := 13) (ty := tyX1 2) hx hb hts hinX1 tyX1 tyX1_ok nmX1 hown hK hH (hs.inj hl0 (by decide)) hS (Or.inl rfl) h1 (by decide) rfl (by decide) rfl (hts (.fieldLink RX1 19 "Steamfield$Books" "sprung" "LSteamfield$Water;") (by decide +kernel)) (fun _ h9 => h9) rfl hin2 rfl (tyX1_ok 2 (by decide)) rfl rfl dX1_init_34 (fun H locs hH z2 oq hS => ?_)
  have hz : H.size = sz + 3 := by omega
  have hs := hs.r 7 2 13
  exact W.vret hx hb hr (fun t ht hW => ⟨⟨(), rfl, trivial, z_to (B := fun H => H.size = sz + 3 ∧ z_H (dC, dI) vwCl zf ca (zdr (zdk (zdr (zdk (zdr (zdk wd 11 6) 7 0 11) 12 6) 7 1 12) 13 6) 7 2 13) (zad h0 sz0) M H) ht ⟨hz, hH⟩⟩, hS.F ht⟩) hS.2.2 dX1_init_37
def zde : zD := (fun _ => 999, fun _ _ => none, zn)
theorem zde_sub : zsub zde := fun a ha => absurd ha (by show ¬ (999 < 200); decide)
def zdL (kb kf kw ks : Nat) : zD := (fun i => if i < 14 then zk i else if 20 ≤ i ∧ i < 20 + kb then 0 else if 30 ≤ i ∧ i < 30 + kb then 6 else if 40 ≤ i ∧ i < 40 + kf then 2 else if 60 ≤ i ∧ i < 60 + kw then 7 else if 70 ≤ i ∧ i < 70 + ks then 5 else 999,
  fun i k => if i = 0 then (if k < 10 then some (k + 1) else none) else if i = 7 then (if k < 3 then some (11 + k) else none) else if i = 1 ∧ k < kb then some (20 + k) else if i = 2 ∧ k < kf then some (40 + k) else if i = 3 ∧ k < kw then some (60 + k) else if i = 4 ∧ k < ks then some (70 + k) else if 20 ≤ i ∧ i < 20 + kb ∧ k = 0 then some (10 + i) else none, zn)
def zMp : zM := zu (zu zM0 6 0 20) 6 1 1
def zMi : zM := zu (zu zMp 8 0 100) 8 1 100
theorem zMp_0 {i : Nat} (h : i ≠ 6) (k : Nat) : zMp i k = 0 := by
  unfold zMp
  rw [zu, if_neg (fun z => h z.1), zu, if_neg (fun z => h z.1)]
  rfl
theorem zdL_sub {kb kf kw ks : Nat} (h1 : kb ≤ 8) (h2 : kf ≤ 12) (h3 : kw ≤ 6) (h4 : ks ≤ 3) : zsub (zdL kb kf kw ks) := by
  intro a ha
  simp only [zdL] at ha
  by_cases c1 : a < 14
  · rw [if_pos c1] at ha; exact ha
  · rw [if_neg c1] at ha
    by_cases c2 : 20 ≤ a ∧ a < 20 + kb
    · obtain ⟨n, rfl⟩ : ∃ n, a = 20 + n := ⟨a - 20, by omega⟩
      rw [zk_b (by omega)]; decide
    · by_cases c3 : 30 ≤ a ∧ a < 30 + kb
      · obtain ⟨n, rfl⟩ : ∃ n, a = 30 + n := ⟨a - 30, by omega⟩
        rw [zk_w (by omega)]; decide
      · by_cases c4 : 40 ≤ a ∧ a < 40 + kf
        · obtain ⟨n, rfl⟩ : ∃ n, a = 40 + n := ⟨a - 40, by omega⟩
          rw [zk_f (by omega)]; decide
        · by_cases c5 : 60 ≤ a ∧ a < 60 + kw
          · obtain ⟨n, rfl⟩ : ∃ n, a = 60 + n := ⟨a - 60, by omega⟩
            rw [zk_v (by omega)]; decide
          · by_cases c6 : 70 ≤ a ∧ a < 70 + ks
            · obtain ⟨n, rfl⟩ : ∃ n, a = 70 + n := ⟨a - 70, by omega⟩
              rw [zk_s (by omega)]; decide
            · rw [if_neg c2, if_neg c3, if_neg c4, if_neg c5, if_neg c6] at ha
              omega
theorem zA_zad {wd : zD} (h : zsub wd) {h0 sz : Nat} : ∀ q, z_A wd (zad h0 sz) q → q = h0 ∨ sz ≤ q := by
  rintro q ⟨i, hi, rfl⟩
  by_cases e : i = 0
  · subst e; exact Or.inl rfl
  · exact Or.inr (zad_rng (h i hi) e).1
theorem zI_zad {wd : zD} (h : zsub wd) {h0 sz : Nat} (hl : h0 < sz) : z_I wd (zad h0 sz) := fun i j hi hj e => zad_inj hl (h i hi) (h j hj) e
theorem zdL_end : ∀ i, zk i < 200 → zk i = (zdL 8 12 6 3).1 i ∧ (∀ k, zr i k = (zdL 8 12 6 3).2.1 i k) ∧ zn i = (zdL 8 12 6 3).2.2 i := by
  intro i hi
  refine ⟨?_, fun k => ?_, rfl⟩
  · have : ∀ i, i < 73 → zk i < 200 → zk i = (zdL 8 12 6 3).1 i := by decide
    exact this i (zk_lt73 hi) hi
  · simp only [zdL, zr]
    repeat' split
    all_goals first | rfl | omega | (congr 1; omega)
theorem zdL_b (k : Nat) : ∀ i, (zdL (k + 1) 0 0 0).1 i < 200 → (zdL (k + 1) 0 0 0).1 i = (zdr (zdr (zdk (zdk (zdL k 0 0 0) (20 + k) 0) (30 + k) 6) (20 + k) 0 (30 + k)) 1 k (20 + k)).1 i ∧ (∀ q, (zdL (k + 1) 0 0 0).2.1 i q = (zdr (zdr (zdk (zdk (zdL k 0 0 0) (20 + k) 0) (30 + k) 6) (20 + k) 0 (30 + k)) 1 k (20 + k)).2.1 i q) ∧ (zdL (k + 1) 0 0 0).2.2 i = (zdr (zdr (zdk (zdk (zdL k 0 0 0) (20 + k) 0) (30 + k) 6) (20 + k) 0 (30 + k)) 1 k (20 + k)).2.2 i := by
  intro i hi
  by_cases h8 : k < 8
  · refine ⟨?_, fun q => ?_, rfl⟩
    · simp only [zdL, zdr, zdk]
      repeat' split
      all_goals first | rfl | omega
    · simp only [zdL, zdr, zdk]
      repeat' split
      all_goals first | rfl | omega | (congr 1; omega)
  · refine ⟨?_, fun q => ?_, rfl⟩
    · simp only [zdL, zdr, zdk]
      repeat' split
      all_goals first | rfl | omega
    · simp only [zdL, zdr, zdk]
      repeat' split
      all_goals first | rfl | omega | (congr 1; omega)
theorem zdL_f (k : Nat) : ∀ i, (zdL 8 (k + 1) 0 0).1 i < 200 → (zdL 8 (k + 1) 0 0).1 i = (zdr (zdk (zdL 8 k 0 0) (40 + k) 2) 2 k (40 + k)).1 i ∧ (∀ q, (zdL 8 (k + 1) 0 0).2.1 i q = (zdr (zdk (zdL 8 k 0 0) (40 + k) 2) 2 k (40 + k)).2.1 i q) ∧ (zdL 8 (k + 1) 0 0).2.2 i = (zdr (zdk (zdL 8 k 0 0) (40 + k) 2) 2 k (40 + k)).2.2 i := by
  intro i hi
  refine ⟨?_, fun q => ?_, rfl⟩
  · simp only [zdL, zdr, zdk]
    repeat' split
    all_goals first | rfl | omega
  · simp only [zdL, zdr, zdk]
    repeat' split
    all_goals first | rfl | omega | (congr 1; omega)
theorem zdL_w (k : Nat) : ∀ i, (zdL 8 12 (k + 1) 0).1 i < 200 → (zdL 8 12 (k + 1) 0).1 i = (zdr (zdk (zdL 8 12 k 0) (60 + k) 7) 3 k (60 + k)).1 i ∧ (∀ q, (zdL 8 12 (k + 1) 0).2.1 i q = (zdr (zdk (zdL 8 12 k 0) (60 + k) 7) 3 k (60 + k)).2.1 i q) ∧ (zdL 8 12 (k + 1) 0).2.2 i = (zdr (zdk (zdL 8 12 k 0) (60 + k) 7) 3 k (60 + k)).2.2 i := by
  intro i hi
  refine ⟨?_, fun q => ?_, rfl⟩
  · simp only [zdL, zdr, zdk]
    repeat' split
    all_goals first | rfl | omega
  · simp only [zdL, zdr, zdk]
    repeat' split
    all_goals first | rfl | omega | (congr 1; omega)
theorem zdL_s (k : Nat) : ∀ i, (zdL 8 12 6 (k + 1)).1 i < 200 → (zdL 8 12 6 (k + 1)).1 i = (zdr (zdk (zdL 8 12 6 k) (70 + k) 5) 4 k (70 + k)).1 i ∧ (∀ q, (zdL 8 12 6 (k + 1)).2.1 i q = (zdr (zdk (zdL 8 12 6 k) (70 + k) 5) 4 k (70 + k)).2.1 i q) ∧ (zdL 8 12 6 (k + 1)).2.2 i = (zdr (zdk (zdL 8 12 6 k) (70 + k) 5) 4 k (70 + k)).2.2 i := by
  intro i hi
  refine ⟨?_, fun q => ?_, rfl⟩
  · simp only [zdL, zdr, zdk]
    repeat' split
    all_goals first | rfl | omega
  · simp only [zdL, zdr, zdk]
    repeat' split
    all_goals first | rfl | omega | (congr 1; omega)
