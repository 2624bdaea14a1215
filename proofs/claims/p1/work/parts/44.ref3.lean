/-! ===== words for the reference's contracts ===== -/
abbrev yMo (dC : Nat → ClassId) (dI : Nat → Nat → Nat) (mo : Nat) (th : Int32) (f : Nat) (sm : Int64) (H : Heap) : Prop := va_at (dC, dI) vwCl (mo, .inr (10, [.int th, .ref f, .long sm])) H
def yA (mo : Nat) (ad : Nat → Nat) (sz : Nat) : Nat → Prop := fun q => q = mo ∨ z_A yd ad q ∨ sz ≤ q
theorem yA_mono {mo : Nat} {ad : Nat → Nat} {a b : Nat} (h : a ≤ b) : ∀ q, yA mo ad b q → yA mo ad a q := by
  rintro q (h1 | h1 | h1)
  · exact Or.inl h1
  · exact Or.inr (Or.inl h1)
  · exact Or.inr (Or.inr (Nat.le_trans h h1))
def yle (n : Nat) : zD := (fun _ => 999, fun _ _ => none, fun _ => n)
abbrev yl (n : Nat) : zD := zdk (yle n) 0 100
def yla (a : Nat) : Nat → Nat := fun _ => a
theorem yl_I (n a : Nat) : z_I (yl n) (yla a) := fun i j hi hj _ => by
  have h : ∀ i, (yl n).1 i < 200 → i = 0 := fun i hi => by
    by_cases c : i = 0
    · exact c
    · rw [show (yl n).1 i = 999 from if_neg c] at hi
      omega
  rw [h i hi, h j hj]
theorem yad_ge {a : Nat} (i : Nat) : a ≤ yad a (a + 1) i := by
  unfold yad
  by_cases h : i = 0
  · rw [if_pos h]; exact Nat.le_refl _
  · rw [if_neg h]; omega
theorem yM_s (n : Nat) : zu (yM n) 0 17 (nI n + 1) = yM (n + 1) := by
  unfold yM
  rw [zu_zu, nI_succ]
theorem y_none (a : Int32) : ¬ z_rg a 0 (-1) := by
  intro ⟨h1, h2⟩
  rw [Int32.lt_iff_toInt_lt] at h1 h2
  rw [show (-1 : Int32).toInt = -1 from rfl] at h2
  rw [Int32.toInt_zero] at h1
  omega
theorem y_rem4 {n : Nat} (h : n < 2000) : vp_in (nI n - nI n / 4 * 4) 4 := by
  have e0 : (nI n).toInt = (n : Int) := nI_toInt (by omega)
  have e1 : (nI n / 4).toInt = (n : Int) / 4 := by
    rw [Int32.toInt_div, e0, show (4 : Int32).toInt = 4 from rfl, Int.tdiv_eq_ediv_of_nonneg (by omega)]
    exact Int.bmod_eq_of_le (by omega) (by omega)
  have e2 : (nI n / 4 * 4).toInt = (n : Int) / 4 * 4 := by
    rw [Int32.toInt_mul, e1, show (4 : Int32).toInt = 4 from rfl]
    exact Int.bmod_eq_of_le (by omega) (by omega)
  have e3 : (nI n - nI n / 4 * 4).toInt = (n : Int) - (n : Int) / 4 * 4 := by
    rw [Int32.toInt_sub, e0, e2]
    exact Int.bmod_eq_of_le (by omega) (by omega)
  have e4 : nI n - nI n / 4 * 4 = nI (n % 4) := by
    apply Int32.toInt_inj.mp
    rw [e3, nI_toInt (by omega)]
    omega
  rw [e4]
  exact nI_in (by omega) (by decide)
def yMany (a : Int32) : Int32 := if a = 7 then 1 else if a = 8 then 20 else 0
theorem y_many {a : Int32} (h : z_rg a 0 12) : (zu (zu zM0 0 7 1) 0 8 20) 0 a.toNatClampNeg = yMany a := by
  obtain ⟨w, h1, h2, h3⟩ := z_ix_rg h (by decide) (by decide)
  have h1 : w < 13 := h1
  subst h3
  rcases (show w = 0 ∨ w = 1 ∨ w = 2 ∨ w = 3 ∨ w = 4 ∨ w = 5 ∨ w = 6 ∨ w = 7 ∨ w = 8 ∨ w = 9 ∨ w = 10 ∨ w = 11 ∨ w = 12 by omega) with e | e | e | e | e | e | e | e | e | e | e | e | e <;> subst e <;> decide
theorem y_coin {a : Int32} (h : z_rg a 0 1) : yM 0 38 a.toNatClampNeg = 100 := by
  obtain ⟨w, h1, h2, h3⟩ := z_ix_rg h (by decide) (by decide)
  have h1 : w < 2 := h1
  subst h3
  rcases (show w = 0 ∨ w = 1 by omega) with e | e <;> subst e <;> decide
theorem y_zero {a : Int32} : zM0 0 a.toNatClampNeg = 0 := rfl
theorem zrow_same {M : zM} {i n : Nat} {f : Nat → Int32} (h : f = M i) : zrow M i (va_cpy f (M i) 0 0 n) = M := by
  funext j k
  by_cases c : j = i
  · subst c
    simp only [zrow, if_pos]
    unfold va_cpy
    by_cases d : 0 ≤ k ∧ k < 0 + n
    · rw [if_pos d, h]; simp
    · rw [if_neg d]
  · simp only [zrow, if_neg c]
theorem y_cpG {p : Program} {l : Launch} {e : Env} {R : Room} {s : State} {m : MethodId} {args : Array Value} {below : List Frame} {meth : Method} {c : Code} {H : Heap} {locs : List Loc} {cells slots : Nat} {Q : State → Prop} {cc : ByteArray} {pc : Nat} {ls : Array Slot} {rest : List Value} {dC : Nat → ClassId} {dI : Nat → Nat → Nat} {ca : Nat → ClassId} {tys : List (ClassId × FieldType)} {A : Nat → Prop} {H0 : Heap} {ad ad2 : Nat → Nat} {M N : zM} {fl : Nat → List Bool} {wd : zD}
    (hexec : p.tables.exec = Jvm.exec) (hb : c.code = cc) (hml : c.maxLocals = ls.size) {own : String} {index : Nat} (hown : s.vm.findClass own = some m.cls) (hlink : (Cond.methodLink own index arraycopyName).before args s = true) (hnat : (Cond.native arraycopyName).before args s = true) (hstat : (Cond.static arraycopyName).before args s = true) (hini : (Cond.initialized "java/lang/System").before args s = true)
    (hK : va_K (dC, dI) vwCl tys s) (hH : z_H (dC, dI) vwCl fl ca wd ad M H) (hG : z_H (dC, dI) vwCl fl ca wd ad2 N H) (hI : z_I wd ad) (hS : va_S A H0 H locs) (hA : ∀ q, z_A wd ad q → A q) {i j t0 : Nat} (hki : wd.1 i = 100) (hkj : wd.1 j = 100) (ht : tys[t0]? = some (ca 100, .int))
    {n : Int32} (h3 : ¬ n < 0) (h4 : n.toNatClampNeg ≤ wd.2.2 j) (h5 : n.toNatClampNeg ≤ wd.2.2 i)
    (hframes : 1 ≤ R.frames) (hlocals : (rest.map fun v => v.category).sum + (nativeFrameWords "java/lang/System" "arraycopy" 5 + 11) ≤ R.locals) (hdg : decode cc pc = .ok (.invokestatic index, 3))
    (kk : ∀ (H1 : Heap) (locs1 : List Loc), z_H (dC, dI) vwCl fl ca wd ad (zrow M i (va_cpy (N j) (M i) 0 0 n.toNatClampNeg)) H1 → (∀ q : Nat, q ≠ ad i → H1[q]? = H[q]?) → va_S A H0 H1 locs1 → W p l e R s m args below meth c H1 locs1 cells slots Q (F0 m (pc + 3) ls rest)) : W p l e R s m args below meth c H locs cells slots Q (F0 m pc ls (.int n :: .int 0 :: .ref (ad i) :: .int 0 :: .ref (ad2 j) :: rest)) := by
  obtain ⟨dd, rfl⟩ : ∃ z, z = i := ⟨_, rfl⟩
  obtain ⟨ss, rfl⟩ : ∃ z, z = j := ⟨_, rfl⟩
  have h1 : ¬ (0 : Int32) < 0 := by decide
  have h2 : ¬ (0 : Int32) < 0 := by decide
  have hz : (0 : Int32).toNatClampNeg = 0 := by decide
  have h4 : (0 : Int32).toNatClampNeg + n.toNatClampNeg ≤ wd.2.2 ss := by rw [hz]; omega
  have h5 : (0 : Int32).toNatClampNeg + n.toNatClampNeg ≤ wd.2.2 dd := by rw [hz]; omega
  have nn : ∀ z : Int32, ¬ z < 0 → z.toInt = (z.toNatClampNeg : Int) := by
    intro z hz
    have hz0 : (0 : Int) ≤ z.toInt := by
      have := Int32.not_lt.mp hz
      simpa using Int32.le_iff_toInt_le.mp this
    show z.toInt = ((z.toInt.toNat : Nat) : Int)
    omega
  intro T hT X
  have hc0 : H[ad2 ss]? = some (vp_cell (ca 100) (wd.2.2 ss, .inl (N ss))) := by have := hG ss (by show wd.1 ss < 200; omega); rw [z_E_a hkj] at this; exact this
  have hc1 : H[ad dd]? = some (vp_cell (ca 100) (wd.2.2 dd, .inl (M dd))) := by have := hH dd (by show wd.1 dd < 200; omega); rw [z_E_a hki] at this; exact this
  obtain ⟨-, k0, hk0, cm0, hkk0⟩ := (hK.2 t0 _ ht).1 (wd.2.2 ss) (fun j => .int ((N ss) j))
  obtain ⟨-, k1, hk1, cm1, hkk1⟩ := (hK.2 t0 _ ht).1 (wd.2.2 dd) (fun j => .int ((M dd) j))
  obtain ⟨vm', X', step⟩ := X.arraycopy hexec hown hlink hnat hstat hini (src := ad2 ss) (dst := ad dd) (cs := vp_cell (ca 100) ((wd.2.2 ss), .inl (N ss))) (cd := vp_cell (ca 100) ((wd.2.2 dd), .inl (M dd))) (srcPos := 0) (destPos := 0) (n := n) (by rw [hT]; exact hc0) (by rw [hT]; exact hc1)
    (fun _ h => by cases h) (fun _ h => by cases h) (fun h => by cases h) (fun h => by cases h) hk0 hk1 hkk0 hkk1 (by simp [(show refKind .int = false from rfl)]) h1 h2 h3
    (by rw [nn 0 h1, nn n h3]; show ¬ _ > ((arrV (ca 100) (wd.2.2 ss) (fun j => .int ((N ss) j))).slots.size : Int); rw [arrV_size]; omega)
    (by rw [nn 0 h2, nn n h3]; show ¬ _ > ((arrV (ca 100) (wd.2.2 dd) (fun j => .int ((M dd) j))).slots.size : Int); rw [arrV_size]; omega)
    (fun vm₁ _ i hi => by
      have e : (vp_cell (ca 100) ((wd.2.2 ss), .inl (N ss))).slots.getD ((0 : Int32).toNatClampNeg + i) .null = .int ((N ss) ((0 : Int32).toNatClampNeg + i)) := by
        show (arrV (ca 100) (wd.2.2 ss) (fun j => .int ((N ss) j))).slots.getD _ _ = _
        rw [Array.getD_eq_getD_getElem?, arrV_read _ _ (by omega)]
        rfl
      refine ⟨?_, ?_⟩
      · rw [e]
        exact rfl
      · rw [e]
        exact trivial)
    (g := F0 m pc ls (.int n :: .int 0 :: .ref (ad dd) :: .int 0 :: .ref (ad2 ss) :: rest)) rfl (by rw [hml]) (rest := rest) rfl (by rw [hb]; exact hdg) hframes (by show 2 * 0 + _ + _ ≤ _; omega)
  have e1 : copied (vp_cell (ca 100) ((wd.2.2 ss), .inl (N ss))) (vp_cell (ca 100) ((wd.2.2 dd), .inl (M dd))) 0 0 n = vp_cell (ca 100) ((wd.2.2 dd), .inl (va_cpy (N ss) (M dd) (0 : Int32).toNatClampNeg (0 : Int32).toNatClampNeg n.toNatClampNeg)) := va_copied (fun z => .int z) (ca 100) (ca 100) (N ss) (M dd) h4
  rw [e1] at X' step
  have hl : (ad dd) < H.size := (Array.getElem?_eq_some_iff.mp hc1).1
  have hheap : ((T.setVm vm').setCell (ad dd) (vp_cell (ca 100) ((wd.2.2 dd), .inl (va_cpy (N ss) (M dd) (0 : Int32).toNatClampNeg (0 : Int32).toNatClampNeg n.toNatClampNeg)))).heap = H.setIfInBounds (ad dd) (vp_cell (ca 100) ((wd.2.2 dd), .inl (va_cpy (N ss) (M dd) (0 : Int32).toNatClampNeg (0 : Int32).toNatClampNeg n.toNatClampNeg))) := by rw [← hT]; rfl
  have oq : ∀ q : Nat, q ≠ (ad dd) → (H.setIfInBounds (ad dd) (vp_cell (ca 100) ((wd.2.2 dd), .inl (va_cpy (N ss) (M dd) (0 : Int32).toNatClampNeg (0 : Int32).toNatClampNeg n.toNatClampNeg))))[q]? = H[q]? := fun q hq => by simp [Array.getElem?_setIfInBounds, Ne.symm hq]
  have hd : z_A wd ad (ad dd) := z_A.in (show wd.1 dd < 200 by omega)
  have hw : z_H (dC, dI) vwCl fl ca wd ad (zrow M dd (va_cpy (N ss) (M dd) 0 0 n.toNatClampNeg)) (H.setIfInBounds (ad dd) (vp_cell (ca 100) ((wd.2.2 dd), .inl (va_cpy (N ss) (M dd) (0 : Int32).toNatClampNeg (0 : Int32).toNatClampNeg n.toNatClampNeg)))) := by
    intro q hq
    by_cases hqd : q = dd
    · subst hqd
      rw [z_E_a hki]
      show (H.setIfInBounds (ad q) _)[ad q]? = some _
      have : zrow M q (va_cpy (N ss) (M q) 0 0 n.toNatClampNeg) q = va_cpy (N ss) (M q) 0 0 n.toNatClampNeg := by funext k; simp [zrow]
      rw [this, hz]
      simp [Array.getElem?_setIfInBounds, hl]
    · have h0 := (hH q hq).kept (H1 := H.setIfInBounds (ad dd) (vp_cell (ca 100) ((wd.2.2 dd), .inl (va_cpy (N ss) (M dd) (0 : Int32).toNatClampNeg (0 : Int32).toNatClampNeg n.toNatClampNeg)))) (oq (ad q) (fun z => hqd (hI q dd hq (show wd.1 dd < 200 by omega) z)))
      have h1 : z_E fl ca wd ad (zrow M dd (va_cpy (N ss) (M dd) 0 0 n.toNatClampNeg)) q = z_E fl ca wd ad M q := by
        have : zrow M dd (va_cpy (N ss) (M dd) 0 0 n.toNatClampNeg) q = M q := by funext k; simp [zrow, hqd]
        unfold z_E
        rw [this]
      rw [h1]
      exact h0
  obtain ⟨t, a1, b1⟩ := kk _ _ hw oq ⟨by simp; exact hS.1, fun q g1 g2 => by
      rw [oq q (fun e => g2 (by rw [e]; exact hA _ hd))]
      exact hS.2.1 q g1 g2, fun q hq => by
      rcases List.mem_append.mp hq with h | h
      · exact hS.2.2 q h
      · obtain ⟨z, -, hz⟩ := List.mem_map.mp h
        rw [← hz]
        exact hA _ hd⟩ _ hheap X'
  exact ⟨t, step t a1, b1⟩
theorem y_cp {p : Program} {l : Launch} {e : Env} {R : Room} {s : State} {m : MethodId} {args : Array Value} {below : List Frame} {meth : Method} {c : Code} {H : Heap} {locs : List Loc} {cells slots : Nat} {Q : State → Prop} {cc : ByteArray} {pc : Nat} {ls : Array Slot} {rest : List Value} {dC : Nat → ClassId} {dI : Nat → Nat → Nat} {ca : Nat → ClassId} {tys : List (ClassId × FieldType)} {A : Nat → Prop} {H0 : Heap} {ad ad2 : Nat → Nat} {M N : zM} {fl : Nat → List Bool} {wd : zD}
    (hexec : p.tables.exec = Jvm.exec) (hb : c.code = cc) (hml : c.maxLocals = ls.size) {own : String} {index : Nat} (hown : s.vm.findClass own = some m.cls) (hlink : (Cond.methodLink own index arraycopyName).before args s = true) (hnat : (Cond.native arraycopyName).before args s = true) (hstat : (Cond.static arraycopyName).before args s = true) (hini : (Cond.initialized "java/lang/System").before args s = true)
    (hK : va_K (dC, dI) vwCl tys s) (hH : z_H (dC, dI) vwCl fl ca wd ad M H) (hG : z_H (dC, dI) vwCl fl ca wd ad2 N H) (hI : z_I wd ad) (hS : va_S A H0 H locs) (hA : ∀ q, z_A wd ad q → A q) {i j t0 : Nat} (hki : wd.1 i = 100) (hkj : wd.1 j = 100) (hs : N j = M i) (ht : tys[t0]? = some (ca 100, .int))
    {n : Int32} (h3 : ¬ n < 0) (h4 : n.toNatClampNeg ≤ wd.2.2 j) (h5 : n.toNatClampNeg ≤ wd.2.2 i)
    (hframes : 1 ≤ R.frames) (hlocals : (rest.map fun v => v.category).sum + (nativeFrameWords "java/lang/System" "arraycopy" 5 + 11) ≤ R.locals) (hdg : decode cc pc = .ok (.invokestatic index, 3))
    (kk : ∀ (H1 : Heap) (locs1 : List Loc), z_H (dC, dI) vwCl fl ca wd ad M H1 → (∀ q : Nat, q ≠ ad i → H1[q]? = H[q]?) → va_S A H0 H1 locs1 → W p l e R s m args below meth c H1 locs1 cells slots Q (F0 m (pc + 3) ls rest)) : W p l e R s m args below meth c H locs cells slots Q (F0 m pc ls (.int n :: .int 0 :: .ref (ad i) :: .int 0 :: .ref (ad2 j) :: rest)) := by
  refine y_cpG hexec hb hml hown hlink hnat hstat hini hK hH hG hI hS hA hki hkj ht h3 h4 h5 hframes hlocals hdg (fun H1 locs1 hH1 oq hS1 => ?_)
  rw [zrow_same hs] at hH1
  exact kk H1 locs1 hH1 oq hS1
set_option maxHeartbeats 4000000 in
set_option maxRecDepth 100000 in
theorem m_X10_init (l : Launch) (dC : Nat → ClassId) (dI : Nat → Nat → Nat) (ca : Nat → ClassId) (mo sz : Nat) (hmo : mo < sz) : Met l yX10_init wsX10_init ({ frames := 2, cells := 41, slots := 254, locals := 32 }) (z_Py (dC, dI) vwCl (yt ca) zw_nest [.ref mo] (fun H => H.size = sz ∧ va_at (dC, dI) vwCl (mo, .inr (10, [.int 0, .null, .long 0])) H)) (z_Qv (fun H => H.size = sz + 41 ∧ va_at (dC, dI) vwCl (mo, .inr (10, [.int 0, .ref ((yad sz (sz + 1)) 0), .long 0])) H ∧ yW dC dI ca (yad sz (sz + 1)) (yM 0) H) (fun q => q = mo ∨ sz ≤ q)) 41 254 (fun q => q = mo ∨ sz ≤ q) := by
  refine Met.ofW (cc := cX10_init) (maxL := 1) (ret := none) (by decide) rfl ?_
  intro p e s m args below meth c s₁ B9 hml hv
  obtain ⟨rfl, ⟨hz, hMo⟩, hK, hN, hX⟩ := hv
  have hx := B9.exec
  have hb := B9.bytes
  have hr := B9.returns
  have hts := atoms_spec (ws := wsX10_init) B9.pre
  have hown : s.vm.findClass RX10 = some m.cls := findClass_of_methodNamed B9.named
  have hlocks := B9.notSynchronized
  have hin2 : meth.name = "<init>" := (name_of_methodNamed B9.named B9.method).1
  have hS : va_S (fun q => q = mo ∨ sz ≤ q) s.heap s.heap [] := va_S.rf
  have hA : ∀ q, s.heap.size ≤ q → (fun q => q = mo ∨ sz ≤ q) q := fun q h => Or.inr (by rw [hz] at h; exact h)
  have hinX9 : ∀ w ∈ u_ws RX9 TX9 24, w ∈ wsX10_init := by decide +kernel
  have hinX10 : ∀ w ∈ u_ws RX10 TX10 3, w ∈ wsX10_init := by decide +kernel
  have hl := lv_entry ([.ref mo]) (n := 1) (Nat.le_of_ble_eq_true rfl)
  rw [lg_entry_eq]
  generalize (lg_sl ([.ref mo]) ++ List.replicate (1 - (lg_sl ([.ref mo])).length) Slot.unset).toArray = ls at hl ⊢
  have hl : lv_has ls 1 [(0, .ref mo)] := hl
  refine lv_aload_n hx hb dX10_init_0 rfl (lv_at hl 0 rfl) ?_
  refine W.objInit hx hb hown (hts (.methodLink RX10 1 objectInit) (by decide +kernel)) (hts (.instanceMethod objectInit) (by decide +kernel)) (hts _ (List.mem_of_getElem? (i := 3) rfl)) rfl (by rw [hml]; exact hl.1) rfl dX10_init_1 (Nat.le_of_ble_eq_true rfl) (Nat.le_of_ble_eq_true rfl) ?_
  refine W.eq (g2 := F0 m 4 ls []) rfl ?_
  refine lv_aload_n hx hb dX10_init_4 rfl (lv_at hl 0 rfl) ?_
  have hG : z_H (dC, dI) vwCl yf ca yde (yad sz (sz + 1)) zM0 s.heap := fun i hi => absurd hi (by show ¬ (999 < 200); decide)
  refine z_new (D := (dC, dI)) (cl := vwCl) (fl := yf) (ca := ca) (ad := (yad sz (sz + 1))) (C := RX9) (T := TX9) (N := 24) (ci := 9) (i := 0) hx hb hts hinX9 tyX9 tyX9_ok hown (hts (.classLink RX10 7 RX9) (by decide +kernel)) (hts (.instantiable RX9 24) (by decide +kernel)) (hts (.initialized RX9) (by decide +kernel)) hK hG hS hA rfl (by decide) hz.symm (fun _ => rfl) (fun _ => rfl) y_born (Nat.le_of_ble_eq_true rfl) (Nat.le_of_ble_eq_true rfl) dX10_init_5 (fun H hG z1 o1 hS => ?_)
  have hMo := va_at.kept hMo (o1 _ (va_at.lt hMo))
  have hz : H.size = sz + 1 := by omega
  refine lv_dup hx hb dX10_init_8 rfl ?_
  refine y_cINv (D := (dC, dI)) (cl := vwCl) (tys := yt ca) (nw := zw_nest) (As := []) (rest := [.ref ((yad sz (sz + 1)) 0), .ref mo]) ⟨hx, hb, hml, hown, hts⟩ (m_X9_init l dC dI ca sz (sz + 1) (Nat.lt_succ_self _)) ⟨va_cnB 0 hts gX10_init_X9_init_n9 rfl rfl rfl (hN (.methodLinkNest RX10 9 yX9_init "SteamfieldModel") (by decide +kernel)) (hts (.initialized RX9) (by decide +kernel)) (by decide +kernel) ⟨Nat.le_of_ble_eq_true rfl, Nat.le_of_ble_eq_true rfl⟩, rfl, hts (.instanceMethod yX9_init) (by decide +kernel)⟩ ⟨hz, hG⟩ hK hN hX zw_nest_ok rfl hl.1 rfl (Nat.le_of_ble_eq_true rfl) dX10_init_9 ⟨Nat.le_of_ble_eq_true rfl, Nat.le_of_ble_eq_true rfl⟩ hS (by rintro q (h9 | h9) <;> exact Or.inr (by omega)) (fun H locs hB1 oq1 hz1 hS => ?_)
  have hMo := va_at.kept hMo (oq1 _ (va_at.lt hMo) (by rintro (h9 | h9) <;> (have h8 : mo = sz ∨ sz + 1 ≤ mo := by first | exact Or.inl h9 | exact Or.inr h9) <;> omega))
  obtain ⟨z2, hG⟩ := hB1
  rw [← yM_0] at hG
  refine yo_putF (D := (dC, dI)) (cl := vwCl) (C := RX10) (T := TX10) (N := 3) (ci := 10) (ty := tyX10 1) hx hb hts hinX10 tyX10 tyX10_ok nmX10 hown hK hMo hS (Or.inl rfl) rfl 1 (by decide) (hts (.fieldLink RX10 10 "SteamfieldModel" "field" "LSteamfieldModel$Field;") (by decide +kernel)) (fun _ h9 => h9) rfl hin2 rfl (tyX10_ok 1 (by decide)) rfl rfl (by decide) dX10_init_12 (fun H1 locs hMo z9 oq hS => ?_)
  have hG := hG.kept (fun i hi => oq _ (by have b0 := yad_ge (a := sz) i; show _ ≠ _; omega))
  exact W.vret hx hb hr (fun t ht hW => ⟨⟨(), rfl, trivial, z_to (B := (fun H => H.size = sz + 41 ∧ va_at (dC, dI) vwCl (mo, .inr (10, [.int 0, .ref ((yad sz (sz + 1)) 0), .long 0])) H ∧ yW dC dI ca (yad sz (sz + 1)) (yM 0) H)) ht ⟨by omega, hMo, hG⟩⟩, hS.F ht⟩) hS.2.2 dX10_init_15
