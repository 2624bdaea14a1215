def zSe : zD := (fun _ => 999, fun _ _ => none, fun _ => 0)
theorem zad_cs {h0 sz i : Nat} (hi : zk i < 200) : zad h0 sz i = h0 ∨ (sz ≤ zad h0 sz i ∧ zad h0 sz i < sz + 50) := by
  by_cases e : i = 0
  · subst e; exact Or.inl rfl
  · exact Or.inr (zad_rng hi e)
theorem zSe_in {wd : zD} (h : ∀ a, wd.1 a < 200 → a = 0) {ad : Nat → Nat} : ∀ a, wd.1 a < 200 → ad a = ad 0 → a = 0 := fun a ha _ => h a ha
theorem zSe_8 : ∀ a, (zdk zSe 0 8).1 a < 200 → a = 0 := fun a ha => by
  by_cases e : a = 0
  · exact e
  · rw [show (zdk zSe 0 8).1 a = 999 from if_neg e] at ha; omega
theorem zdS_ok : ∀ i, zdS.1 i < 200 → zdS.1 i = (zdr (zdr (zdk zSe 0 8) 0 0 1) 0 1 2).1 i ∧ (∀ k, zdS.2.1 i k = (zdr (zdr (zdk zSe 0 8) 0 0 1) 0 1 2).2.1 i k) ∧ zdS.2.2 i = (zdr (zdr (zdk zSe 0 8) 0 0 1) 0 1 2).2.2 i := by
  intro i hi
  have e : i = 0 := by
    by_cases e : i = 0
    · exact e
    · simp [zdS, e] at hi
  subst e
  refine ⟨rfl, fun k => ?_, rfl⟩
  by_cases h : k < 2
  · rcases (show k = 0 ∨ k = 1 by omega) with h | h <;> subst h <;> rfl
  · have e1 : zdS.2.1 0 k = none := by simp [zdS, h]
    rw [e1]
    simp only [zdr, zdk, zSe]
    rw [if_neg (by omega), if_neg (by omega)]
set_option maxHeartbeats 4000000 in
set_option maxRecDepth 100000 in
theorem m_X8_init (l : Launch) (dC : Nat → ClassId) (dI : Nat → Nat → Nat) (ca : Nat → ClassId) (sf sz : Nat) (hl0 : sf < sz) : Met l yX8_init wsX8_init ({ frames := 4, cells := 102, slots := 520, locals := 74 }) (z_Pn (dC, dI) vwCl (zt ca) zw_nest [.ref sf] (fun H => H.size = sz + 0 ∧ z_H (dC, dI) vwCl zf ca (zdk zSe 0 8) (zs sf sz (sz + 51)) zM0 H)) (z_Qv (fun H => H.size = sz + 102 ∧ zT dC dI ca sf sz (sz + 51) H ∧ zW dC dI ca (zad sz (sz + 1)) zMi H ∧ zW dC dI ca (zad (sz + 51) (sz + 52)) zMi H) (fun q => q = sf ∨ sz ≤ q)) 102 520 (fun q => q = sf ∨ sz ≤ q) := by
  refine Met.ofW (cc := cX8_init) (maxL := 1) (ret := none) (by decide) rfl ?_
  intro p e s m args below meth c s₁ B9 hml hv
  obtain ⟨rfl, ⟨hz, hT⟩, hK, hN, hX⟩ := hv
  have hx := B9.exec
  have hb := B9.bytes
  have hr := B9.returns
  have hts := atoms_spec (ws := wsX8_init) B9.pre
  have hown : s.vm.findClass RX8 = some m.cls := findClass_of_methodNamed B9.named
  have hlocks := B9.notSynchronized
  have hin2 : meth.name = "<init>" := (name_of_methodNamed B9.named B9.method).1
  have hS : va_S (fun q => q = sf ∨ sz ≤ q) s.heap s.heap [] := va_S.rf
  have hA : ∀ q, s.heap.size ≤ q → (fun q => q = sf ∨ sz ≤ q) q := fun q h => Or.inr (by rw [hz] at h; exact h)
  have hinX3 : ∀ w ∈ u_ws RX3 TX3 15, w ∈ wsX8_init := by decide +kernel
  have hinX8 : ∀ w ∈ u_ws RX8 TX8 2, w ∈ wsX8_init := by decide +kernel
  have hl := lv_entry ([.ref sf]) (n := 1) (Nat.le_of_ble_eq_true rfl)
  rw [lg_entry_eq]
  generalize (lg_sl ([.ref sf]) ++ List.replicate (1 - (lg_sl ([.ref sf])).length) Slot.unset).toArray = ls at hl ⊢
  have hl : lv_has ls 1 [(0, .ref (sf))] := hl
  refine lv_aload_n hx hb dX8_init_0 rfl (lv_at hl 0 rfl) ?_
  refine W.objInit hx hb hown (hts (.methodLink RX8 1 objectInit) (by decide +kernel)) (hts (.instanceMethod objectInit) (by decide +kernel)) (hts _ (List.mem_of_getElem? (i := 3) rfl)) rfl (by rw [hml]; exact hl.1) rfl dX8_init_1 (Nat.le_of_ble_eq_true rfl) (Nat.le_of_ble_eq_true rfl) ?_
  refine W.eq (g2 := F0 m 4 ls []) rfl ?_
  refine lv_aload_n hx hb dX8_init_4 rfl (lv_at hl 0 rfl) ?_
  have hH : z_H (dC, dI) vwCl zf ca zde (zad sz (sz + 1)) zM0 s.heap := fun i hi => absurd hi (by show ¬ (999 < 200); decide)
  refine z_new (D := (dC, dI)) (cl := vwCl) (fl := zf) (ca := ca) (ad := (zad sz (sz + 1))) (C := RX3) (T := TX3) (N := 15) (ci := 3) (i := 0) hx hb hts hinX3 tyX3 tyX3_ok hown (hts (.classLink RX8 7 RX3) (by decide +kernel)) (hts (.instantiable RX3 15) (by decide +kernel)) (hts (.initialized RX3) (by decide +kernel)) hK hH hS hA rfl (by decide) (by rw [hz]; rfl) (fun _ => rfl) (fun _ => rfl) (z_born 3 tyX3 15 (by decide)) (Nat.le_of_ble_eq_true rfl) (Nat.le_of_ble_eq_true rfl) dX8_init_5 (fun H hH z1 o1 hS => ?_)
  have hz : H.size = sz + 1 := by omega
  have hT := hT.kept (fun i hi => o1 _ (hT.lt hi))
  refine lv_dup hx hb dX8_init_8 rfl ?_
  refine z_cIP (D := (dC, dI)) (cl := vwCl) (tys := zt ca) (nw := zw_nest) (As := []) (rest := [.ref ((zad sz (sz + 1)) 0), .ref sf]) ⟨hx, hb, hml, hown, hts⟩ (m_X3_init l dC dI ca sz (sz + 1) (by omega)) (cwI 0 hts gX8_init_X3_init rfl rfl rfl (hts (.initialized RX3) (by decide +kernel)) (hts (.methodLink RX8 9 yX3_init) (by decide +kernel)) (hts (.instanceMethod yX3_init) (by decide +kernel)) rfl (by decide +kernel) ⟨Nat.le_of_ble_eq_true rfl, Nat.le_of_ble_eq_true rfl⟩) ⟨by rw [hz], hH⟩ hK hN hX zw_nest_ok rfl hl.1 rfl (Nat.le_of_ble_eq_true rfl) dX8_init_9 ⟨Nat.le_of_ble_eq_true rfl, Nat.le_of_ble_eq_true rfl⟩ hS (by rintro q (h9 | h9) <;> exact Or.inr (by omega)) (fun H locs hB1 oq1 hz1 hS => ?_)
  have hT := hT.kept (fun i hi => oq1 _ (hT.lt hi) (by rw [(show _ = 0 from zSe_8 i hi)]; show ¬ (sf = _ ∨ _ ≤ sf); omega))
  obtain ⟨hz, hL⟩ := hB1
  have hz : H.size = sz + 51 := by omega
  have hH := hT
  refine z_prF (D := (dC, dI)) (cl := vwCl) (fl := zf) (ca := ca) (ad := (zs sf sz (sz + 51))) (C := RX8) (T := TX8) (N := 2) (ci := 8) (i := 0) (k := 0) (j := 1) (ty := tyX8 0) hx hb hts hinX8 tyX8 tyX8_ok nmX8 hown hK hH (zSe_in zSe_8) hS (Or.inl rfl) rfl (by decide) rfl (by decide) rfl (hts (.fieldLink RX8 10 "Steamfield" "land" "LSteamfield$Land;") (by decide +kernel)) (fun _ h9 => h9) rfl hin2 rfl (tyX8_ok 0 (by decide)) rfl rfl dX8_init_12 (fun H locs hH z2 oq hS => ?_)
  have hz : H.size = sz + 51 := by omega
  have hT := hH
  have hL := hL.kept (fun i hi => oq _ (by have := zad_cs (h0 := sz) (sz := sz + 1) hi; show _ ≠ sf; omega))
  refine lv_aload_n hx hb dX8_init_15 rfl (lv_at hl 0 rfl) ?_
  have hH : z_H (dC, dI) vwCl zf ca zde (zad (sz + 51) (sz + 52)) zM0 H := fun i hi => absurd hi (by show ¬ (999 < 200); decide)
  refine z_new (D := (dC, dI)) (cl := vwCl) (fl := zf) (ca := ca) (ad := (zad (sz + 51) (sz + 52))) (C := RX3) (T := TX3) (N := 15) (ci := 3) (i := 0) hx hb hts hinX3 tyX3 tyX3_ok hown (hts (.classLink RX8 7 RX3) (by decide +kernel)) (hts (.instantiable RX3 15) (by decide +kernel)) (hts (.initialized RX3) (by decide +kernel)) hK hH hS hA rfl (by decide) (by rw [hz]; rfl) (fun _ => rfl) (fun _ => rfl) (z_born 3 tyX3 15 (by decide)) (Nat.le_of_ble_eq_true rfl) (Nat.le_of_ble_eq_true rfl) dX8_init_16 (fun H hH z1 o1 hS => ?_)
  have hz : H.size = sz + 52 := by omega
  have hT := hT.kept (fun i hi => o1 _ (hT.lt hi))
  have hL := hL.kept (fun i hi => o1 _ (hL.lt hi))
  refine lv_dup hx hb dX8_init_19 rfl ?_
  refine z_cIP (D := (dC, dI)) (cl := vwCl) (tys := zt ca) (nw := zw_nest) (As := []) (rest := [.ref ((zad (sz + 51) (sz + 52)) 0), .ref sf]) ⟨hx, hb, hml, hown, hts⟩ (m_X3_init l dC dI ca (sz + 51) (sz + 52) (by omega)) (cwI 0 hts gX8_init_X3_init rfl rfl rfl (hts (.initialized RX3) (by decide +kernel)) (hts (.methodLink RX8 9 yX3_init) (by decide +kernel)) (hts (.instanceMethod yX3_init) (by decide +kernel)) rfl (by decide +kernel) ⟨Nat.le_of_ble_eq_true rfl, Nat.le_of_ble_eq_true rfl⟩) ⟨by rw [hz], hH⟩ hK hN hX zw_nest_ok rfl hl.1 rfl (Nat.le_of_ble_eq_true rfl) dX8_init_20 ⟨Nat.le_of_ble_eq_true rfl, Nat.le_of_ble_eq_true rfl⟩ hS (by rintro q (h9 | h9) <;> exact Or.inr (by omega)) (fun H locs hB1 oq1 hz1 hS => ?_)
  have hT := hT.kept (fun i hi => oq1 _ (hT.lt hi) (by rw [(show _ = 0 from zSe_8 i hi)]; show ¬ (sf = _ ∨ _ ≤ sf); omega))
  have hL := hL.kept (fun i hi => oq1 _ (hL.lt hi) (by have := zad_cs (h0 := sz) (sz := sz + 1) hi; omega))
  obtain ⟨hz, hG⟩ := hB1
  have hz : H.size = sz + 102 := by omega
  have hH := hT
  refine z_prF (D := (dC, dI)) (cl := vwCl) (fl := zf) (ca := ca) (ad := (zs sf sz (sz + 51))) (C := RX8) (T := TX8) (N := 2) (ci := 8) (i := 0) (k := 1) (j := 2) (ty := tyX8 1) hx hb hts hinX8 tyX8 tyX8_ok nmX8 hown hK hH (zSe_in zSe_8) hS (Or.inl rfl) rfl (by decide) rfl (by decide) rfl (hts (.fieldLink RX8 16 "Steamfield" "trial" "LSteamfield$Land;") (by decide +kernel)) (fun _ h9 => h9) rfl hin2 rfl (tyX8_ok 1 (by decide)) rfl rfl dX8_init_23 (fun H locs hH z2 oq hS => ?_)
  have hz : H.size = sz + 102 := by omega
  have hT := hH
  have hL := hL.kept (fun i hi => oq _ (by have := zad_cs (h0 := sz) (sz := sz + 1) hi; show _ ≠ sf; omega))
  have hG := hG.kept (fun i hi => oq _ (by have := zad_cs (h0 := sz + 51) (sz := sz + 52) hi; show _ ≠ sf; omega))
  exact W.vret hx hb hr (fun t ht hW => ⟨⟨(), rfl, trivial, z_to (B := (fun H => H.size = sz + 102 ∧ zT dC dI ca sf sz (sz + 51) H ∧ zW dC dI ca (zad sz (sz + 1)) zMi H ∧ zW dC dI ca (zad (sz + 51) (sz + 52)) zMi H)) ht ⟨hz, hT.desc zdS_ok, hL, hG⟩⟩, hS.F ht⟩) hS.2.2 dX8_init_26
def rL_below (v n : Int32) : Int32 := (v &&& 2147483647) - (v &&& 2147483647) / n * n
theorem q_and31 (v : Int32) : ∃ k, k < 2 ^ 31 ∧ v &&& 2147483647 = nI k := by
  have h : (v.toBitVec &&& 2147483647#32).toNat ≤ 2147483647 := by
    rw [BitVec.toNat_and]
    exact Nat.and_le_right
  refine ⟨(v.toBitVec &&& 2147483647#32).toNat, by omega, ?_⟩
  apply Int32.toBitVec_inj.mp
  show v.toBitVec &&& 2147483647#32 = BitVec.ofNat 32 _
  rw [BitVec.ofNat_toNat, BitVec.setWidth_eq]
theorem q_below (v n : Int32) (hn : 0 < n.toInt) : 0 ≤ (rL_below v n).toInt ∧ (rL_below v n).toInt < n.toInt := by
  obtain ⟨k, hk, e⟩ := q_and31 v
  unfold rL_below
  rw [e]
  have h1 : (nI k).toInt = (k : Int) := nI_toInt hk
  have hr := fb_rng n
  have hd : (nI k / n).toInt = (k : Int) / n.toInt := by rw [q_div (by omega) hn, h1]
  have h2 : (k : Int) / n.toInt * n.toInt ≤ (k : Int) := Int.ediv_mul_le _ (by omega)
  have h3 : (k : Int) < ((k : Int) / n.toInt + 1) * n.toInt := Int.lt_ediv_add_one_mul_self _ hn
  rw [Int.add_mul, Int.one_mul] at h3
  have h4 : 0 ≤ (k : Int) / n.toInt * n.toInt := Int.mul_nonneg (Int.ediv_nonneg (by omega) (by omega)) (by omega)
  have hm : (nI k / n * n).toInt = (k : Int) / n.toInt * n.toInt := by rw [fb_mulI (by rw [hd]; omega) (by rw [hd]; omega), hd]
  have hs : (nI k - nI k / n * n).toInt = (k : Int) - (k : Int) / n.toInt * n.toInt := by rw [fb_subI (by rw [hm]; omega) (by rw [hm]; omega), hm, h1]
  omega
theorem q_belowI (v : Int32) {n : Nat} (hn : 0 < n) (h31 : n < 2 ^ 31) {y : Int32} (hy : y = nI n) : ∃ k, k < n ∧ rL_below v y = nI k := by
  subst hy
  have h := q_below v (nI n) (by rw [nI_toInt h31]; omega)
  rw [nI_toInt h31] at h
  refine ⟨(rL_below v (nI n)).toInt.toNat, by omega, ?_⟩
  apply Int32.toInt_inj.mp
  rw [nI_toInt (by omega)]
  omega
theorem q_nI_nz {n : Nat} (h0 : 0 < n) (h : n < 2 ^ 31) : ¬ nI n = 0 := fun e => by
  have := congrArg Int32.toInt e
  rw [nI_toInt h, Int32.toInt_zero] at this
  omega
set_option maxHeartbeats 4000000 in
set_option maxRecDepth 100000 in
theorem m_L_below (l : Launch) (dC : Nat → ClassId) (dI : Nat → Nat → Nat) (ca : Nat → ClassId) (B : Heap → Prop) (a0 : Int32) (a1 : Int32) (h_nz : ¬ a1 = 0) : Met l yL_below wsL_below ({ frames := 0, cells := 0, slots := 0, locals := 0 }) (z_Pc (dC, dI) vwCl (zt ca) zw_nest [.int a0, .int a1] (fun H => B H)) (z_Qi (rL_below a0 a1) (fun H => B H) (fun _ => False)) 0 0 (fun _ => False) := by
  refine Met.ofW (cc := cL_below) (maxL := 2) (ret := (some .int)) (by decide) rfl ?_
  intro p e s m args below meth c s₁ B9 hml hv
  obtain ⟨rfl, hB, hK, hN⟩ := hv
  have hx := B9.exec
  have hb := B9.bytes
  have hr := B9.returns
  have hts := atoms_spec (ws := wsL_below) B9.pre
  have hown : s.vm.findClass RL = some m.cls := findClass_of_methodNamed B9.named
  have hlocks := B9.notSynchronized
  have hS : va_S (fun _ => False) s.heap s.heap [] := va_S.rf
  have hl := lv_entry ([.int a0, .int a1]) (n := 2) (Nat.le_of_ble_eq_true rfl)
  rw [lg_entry_eq]
  generalize (lg_sl ([.int a0, .int a1]) ++ List.replicate (2 - (lg_sl ([.int a0, .int a1])).length) Slot.unset).toArray = ls at hl ⊢
  have hl : lv_has ls 2 [(0, .int a0), (1, .int a1)] := hl
  refine lv_iload_n hx hb dL_below_0 rfl (lv_at hl 0 rfl) ?_
  refine lv_ldc (v := 2147483647) hx hb hown (hts (.constant RL 7 2147483647) (by decide +kernel)) dL_below_1 ?_
  refine lv_iand hx hb dL_below_3 ?_
  refine lv_iload_n hx hb dL_below_4 rfl (lv_at hl 1 rfl) ?_
  refine lv_irem hx hb dL_below_5 h_nz ?_
  exact W.iret (v := rL_below a0 a1) hx hb hr (fun t ht hW => ⟨⟨rL_below a0 a1, (), rfl, rfl, z_to (B := fun H => B H) ht hB⟩, hS.F ht⟩) hS.2.2 dL_below_6
/-- what the script's reader wants: the script, anywhere -/
abbrev z_Px (av : List Value) (b L : Nat) (xs : Nat → Int32) (B : Heap → Prop) : Array Value → State → Prop := va_Pc av (fun U => B U.heap ∧ b < U.heap.size ∧ va_X b L xs U U.heap)
theorem z_blindx {av : List Value} {b L : Nat} {xs : Nat → Int32} {B : Heap → Prop} : FrameBlind (z_Px av b L xs B) := fun a U g mk q => by
  obtain ⟨q0, qB, qb, qX⟩ := q
  exact ⟨q0, qB, qb, va_X.moved (u := U) (U := U.calling g mk a) (Vm.Alike.refl U.vm) qX⟩
set_option maxHeartbeats 4000000 in
set_option maxRecDepth 100000 in
theorem m_L_cell (l : Launch) (b L : Nat) (hL : L ≤ 260) (xs : Nat → Int32) (B : Heap → Prop) (a1 : Int32) (h1 : 0 ≤ a1.toInt) : Met l yL_cell wsL_cell ({ frames := 0, cells := 0, slots := 0, locals := 0 }) (z_Px [.ref b, .int a1] b L xs (fun H => B H)) (z_Qp (fun _ => True) (fun H => B H) (fun _ => False)) 0 0 (fun _ => False) := by
  refine Met.ofW (cc := cL_cell) (maxL := 2) (ret := (some .int)) (by decide) rfl ?_
  intro p e s m args below meth c s₁ B9 hml hv
  obtain ⟨rfl, hB, hbl, hXs⟩ := hv
  have hx := B9.exec
  have hb := B9.bytes
  have hr := B9.returns
  have hts := atoms_spec (ws := wsL_cell) B9.pre
  have hown : s.vm.findClass RL = some m.cls := findClass_of_methodNamed B9.named
  have hlocks := B9.notSynchronized
  have hS : va_S (fun _ => False) s.heap s.heap [] := va_S.rf
  have hl := lv_entry ([.ref b, .int a1]) (n := 2) (Nat.le_of_ble_eq_true rfl)
  rw [lg_entry_eq]
  generalize (lg_sl ([.ref b, .int a1]) ++ List.replicate (2 - (lg_sl ([.ref b, .int a1])).length) Slot.unset).toArray = ls at hl ⊢
  have hl : lv_has ls 2 [(0, .ref b), (1, .int a1)] := hl
  have K18 : ∀ (y : Int32) (ls : Array Slot), W p l e (headSpec wsL_cell ({ frames := 0, cells := 0, slots := 0, locals := 0 })).room s m ([.ref b, .int a1] : List Value).toArray below meth c s.heap [] 0 0 (MQ below (z_Qp (fun _ => True) (fun H => B H) (fun _ => False)) ([.ref b, .int a1] : List Value).toArray s 0 0 (fun _ => False)) (F0 m 18 ls [.int y]) := by
    intro y ls
    exact W.iret (v := y) hx hb hr (fun t ht hW => ⟨⟨y, (), rfl, trivial, z_to (B := fun H => B H) ht hB⟩, hS.F ht⟩) hS.2.2 dL_cell_18
  refine lv_iload_n hx hb dL_cell_0 rfl (lv_at hl 1 rfl) ?_
  refine lv_aload_n hx hb dL_cell_1 rfl (lv_at hl 0 rfl) ?_
  refine va_slen hx hb hXs hbl (fun h => h) hS dL_cell_2 ?_
  refine lv_icmp_ge (tgt := 12) hx hb dL_cell_3 (by decide) (fun c1 => ?_) (fun c1 => ?_)
  · refine lv_ldc (v := 790386105) hx hb hown (hts (.constant RL 8 790386105) (by decide +kernel)) dL_cell_12 ?_
    refine lv_iload_n hx hb dL_cell_14 rfl (lv_at hl 1 rfl) ?_
    refine lv_iconst (v := 3) hx hb dL_cell_15 (by decide) ?_
    refine lv_iadd hx hb dL_cell_16 ?_
    refine lv_imul hx hb dL_cell_17 ?_
    exact K18 _ ls
  · refine lv_aload_n hx hb dL_cell_6 rfl (lv_at hl 0 rfl) ?_
    refine lv_iload_n hx hb dL_cell_7 rfl (lv_at hl 1 rfl) ?_
    have hlen : (Int32.ofNat L).toInt = (L : Int) := nI_toInt (n := L) (by omega)
    have hin : vp_in a1 L := vp_in_iff.mpr ⟨h1, by rw [Int32.le_iff_toInt_le, hlen] at c1; omega⟩
    refine va_sld hx hb hXs hbl (fun h => h) hS hin dL_cell_8 ?_
    refine lv_goto (tgt := 18) hx hb dL_cell_9 (by decide) ?_
    exact K18 _ ls
