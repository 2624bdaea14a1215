/-! ===== the law's body ===== -/
section ZOF
variable {p : Program} {l : Launch} {e : Env} {R : Room} {s : State} {m : MethodId} {args : Array Value} {below : List Frame} {meth : Method} {c : Code} {H : Heap} {locs : List Loc} {cells slots : Nat} {Q : State → Prop}
variable {cc : ByteArray} {pc nL : Nat} {ls : Array Slot} {rest st0 : List Value} {A0 A1 : Nat → Prop} {dC : Nat → ClassId} {dI : Nat → Nat → Nat} {ca : Nat → ClassId}
variable {y : MethodName} {bytes : ByteArray} {maxL n index mc ms : Nat} {ret : Option FieldType} {ws Ts : List Cond} {rm : Room} {own : String} {b L : Nat} {xs : Nat → Int32}
theorem z_cOf (S : CallFix p m c cc nL s args Ts own) (hM : Met l y ws rm (z_Pf dC dI ca s.heap.size b L xs) (z_Qf dC dI ca s.heap.size A1) mc ms A1) (cw : CallB R s args own index y bytes maxL ret ws rm mc ms n ∧ (Cond.static y).before args s = true)
    (hX : va_X b L xs s s.heap) (hbl : b < s.heap.size) (hK : va_K (dC, dI) vwCl (zt ca) s) (hN : z_N zw_nest s) (hXo : zAO s) (hn : 1 = n) (hsize : ls.size = nL) (hst : st0 = [.ref b] ++ rest) (hW : (rest.map fun v => v.category).sum ≤ 8) (hdg : decode cc pc = .ok (.invokestatic index, 3)) (hf : cells + mc ≤ R.cells ∧ slots + ms ≤ R.slots) (hS : va_S A0 s.heap s.heap locs) (hA : ∀ q, A1 q → A0 q)
    (kk : ∀ (a : Nat) (H1 : Heap) (locs1 : List Loc), zOfEnd dC dI ca s.heap.size a H1 → va_S A0 s.heap H1 locs1 → W p l e R s m args below meth c H1 locs1 (cells + mc) (slots + ms) Q (F0 m (pc + 3) ls (.ref a :: rest))) : W p l e R s m args below meth c s.heap locs cells slots Q (F0 m pc ls st0) := by
  refine va_callr (va_runS (As := [.ref b]) S hM cw ⟨fun a U g mk q => ?_, fun U hU hW => ⟨rfl, ⟨by rw [hU], hbl, by rw [hU]; exact va_X.moved hW.alike hX⟩, va_K.moved hW.alike hK, hN.warm zw_nest_ok hW, hXo.moved hW.alike⟩⟩ rfl hn hsize hst (lv_room hW) hdg hf) hS (fun q _ h => hA q h) hA (fun u ra t H1 locs1 ht hvm hw hB1 hz1 hk1 hS1 => ?_)
  · obtain ⟨q0, ⟨qz, qb, qX⟩, qK, qN, qo⟩ := q
    exact ⟨q0, ⟨qz, qb, va_X.moved (u := U) (U := U.calling g mk a) (Vm.Alike.refl U.vm) qX⟩, va_K.moved (u := U) (U := U.calling g mk a) (Vm.Alike.refl U.vm) qK, z_N.same (s := U) (U := U.calling g mk a) zw_nest_ok rfl qN, zAO.moved (u := U) (U := U.calling g mk a) (Vm.Alike.refl U.vm) qo⟩
  · have hB1 : zOfEnd dC dI ca s.heap.size ra t.heap := hB1
    rw [ht] at hB1
    exact kk ra H1 locs1 hB1 hS1
theorem z_cVl {nw : List Cond} {D : va_G} {cl : List vw_C} {tys : List (ClassId × FieldType)} {C : String} {b : Addr} {As : List Value} {B B' : Heap → Prop} {H0 : Heap} {v : Int64} (S : CallFix p m c cc nL s args Ts own) (hM : Met l y ws rm (z_Pc D cl tys nw (.ref b :: As) B) (z_Ql v B' A1) 0 0 A1) (cw : CallW R s args own C index y bytes maxL ret ws rm 0 0 n)
    (hrec : ∃ cell : Cell, H[b]? = some cell ∧ cell.vm.isStatics = false ∧ s.vm.findClass C = some cell.cls) (hB : B H) (hK : va_K D cl tys s) (hN : z_N nw s) (hnw : nw.all z_nest = true) (hn : As.length = n) (hsize : ls.size = nL) (hst : st0 = As.reverse ++ .ref b :: rest) (hW : (rest.map fun v => v.category).sum ≤ 8) (hdg : decode cc pc = .ok (.invokevirtual index, 3)) (hf : cells ≤ R.cells ∧ slots ≤ R.slots) (hS : va_S A0 H0 H locs) (hA : ∀ q, A1 q → A0 q)
    (kk : ∀ (H1 : Heap) (locs1 : List Loc), B' H1 → (∀ q : Nat, q < H.size → ¬ A1 q → H1[q]? = H[q]?) → H.size ≤ H1.size → va_S A0 H0 H1 locs1 → W p l e R s m args below meth c H1 locs1 cells slots Q (F0 m (pc + 3) ls (.long v :: rest))) : W p l e R s m args below meth c H locs cells slots Q (F0 m pc ls st0) := by
  refine va_calll (va_runV S hM cw ⟨z_blind hnw, hrec, fun U hU hW => ⟨rfl, by rw [hU]; exact hB, va_K.moved hW.alike hK, hN.warm hnw hW⟩⟩ rfl hn hsize hst (lv_room hW) hdg hf) hS (fun q _ h => hA q h) hA (fun r u t H1 locs1 ht hvm hw hB1 hz1 hk1 hS1 => ?_)
  subst hw
  rw [ht] at hB1
  exact kk H1 locs1 hB1 hk1 hz1 hS1
/-- the call of isCleaned -/
theorem z_cIC {hh : List (Nat × Nat × Nat × Nat)} {av : List Value} {P : zM → Prop} {B : Heap → Prop} {B' : zM → Heap → Prop} (S : CallFix p m c cc nL s args Ts own) (hM : Met l y ws rm (z_Pe (dC, dI) vwCl (zt ca) zw_nest av A1 B) (va_Qi (fun (r : Int32) (M' : zM) => r = 1 ∧ P M') (fun M' t => B' M' t.heap) A1) mc ms A1) (cw : vx_CSW R s args own index y bytes maxL ret hh ws rm mc ms n)
    (hB : B H) (hK : va_K (dC, dI) vwCl (zt ca) s) (hN : z_N zw_nest s) (hE : zEx A0 s) (hn : av.length = n) (hsize : ls.size = nL) (hst : st0 = av.reverse ++ rest) (hW : (rest.map fun v => v.category).sum ≤ 8) (hdg : decode cc pc = .ok (.invokestatic index, 3)) (hf : cells + mc ≤ R.cells ∧ slots + ms ≤ R.slots) (hS : va_S A0 s.heap H locs) (hA : ∀ q, A1 q → A0 q)
    (kk : ∀ (M' : zM) (H1 : Heap) (locs1 : List Loc), P M' → B' M' H1 → va_S A0 s.heap H1 locs1 → W p l e R s m args below meth c H1 locs1 (cells + mc) (slots + ms) Q (F0 m (pc + 3) ls (.int 1 :: rest))) : W p l e R s m args below meth c H locs cells slots Q (F0 m pc ls st0) := by
  refine va_calli (vx_runSW S hM cw ⟨z_blinde zw_nest_ok, fun U hU hW => ⟨rfl, by rw [hU]; exact hB, va_K.moved hW.alike hK, hN.warm zw_nest_ok hW, hE.warm hA (by rw [hU]; exact hS.2.1) hW⟩⟩ rfl hn hsize hst (lv_room hW) hdg hf) hS (fun q _ h => hA q h) hA (fun r u t H1 locs1 ht hvm hw hB1 hz1 hk1 hS1 => ?_)
  obtain ⟨rfl, hp⟩ := hw
  have hB1 : B' u t.heap := hB1
  rw [ht] at hB1
  exact kk u H1 locs1 hp hB1 hS1
end ZOF
theorem zOf.inb {nb nf nw ns : Nat} {M : zM} (h : zOf nb nf nw ns M) (hn : 1 ≤ nb) : rX3_inBlocks M 0 = M 11 0 := by
  have hP := (h.li hn).inv.2.2.1
  have hb := q_inB hP (q := 0) (a := 0) (fun _ => rfl) (by decide) nb (Nat.le_refl _)
  apply Int32.toInt_inj.mp
  rw [h.told 0 (by decide), ← hb]
  unfold rX3_inBlocks
  rw [h.k10]
theorem q_nnt {k : Nat} {i x y : Int32} (ei : i = nI k) (hk : k < 1000) (hx : x = i - i / 16 * 16) (hy : y = 14 + x) : 0 ≤ y.toInt := by
  have i1 : i.toInt = (k : Int) := by rw [ei]; exact nI_toInt (by omega)
  have i16 : (16 : Int32).toInt = 16 := rfl
  have d : (i / 16).toInt = (k : Int) / 16 := by rw [q_div (by omega) (by decide), i1, i16]
  have m : (i / 16 * 16).toInt = (k : Int) / 16 * 16 := by rw [fb_mulI (by rw [d, i16]; omega) (by rw [d, i16]; omega), d, i16]
  have e : x.toInt = (k : Int) - (k : Int) / 16 * 16 := by rw [hx, fb_subI (by omega) (by omega), m, i1]
  rw [hy, q_addc (n := 14) 14 rfl (by decide) (by decide) (by omega)]
  omega
theorem q_pos {x : Int32} {n : Nat} (e : x = nI n) (h : ¬ x = 0) : 0 < n := by
  rcases Nat.eq_zero_or_pos n with h0 | h0
  · subst h0; exact absurd e h
  · exact h0
theorem q_well {v : Int32} {nw : Nat} (h : v = (-1) ∨ ∃ k, k < nw ∧ v = nI k) (c : ¬ v < 0) : ∃ k, k < nw ∧ v = nI k := by
  rcases h with h | h
  · exact absurd (by rw [h]; decide) c
  · exact h
theorem q_hm {M : zM} {a0 : Int32} {k b : Nat} (hk : k < 100) (hb' : b < 100) (e0 : a0 = nI k) (hb : M (60 + k) 0 = nI b) (c : ¬ M (30 + b) 0 ≤ 0) : ¬ M (30 + (M (60 + a0.toNatClampNeg) 0).toNatClampNeg) 0 ≤ 0 := by
  subst e0
  rw [q_nIn (by omega), hb, q_nIn (by omega)]
  exact c
theorem q_in1 {a x : Int32} (e : x = if a = 0 then 0 else 1) (h : x = 1) : ¬ a = 0 := fun z => by
  rw [e, if_pos z] at h
  exact absurd h (by decide)
theorem q_cmp0 (x : Int64) : lg_cmp x x = 0 := by
  have h : ¬ x < x := by rw [Int64.lt_iff_toInt_lt]; omega
  unfold lg_cmp
  rw [if_neg h]
  first | rfl | (rw [if_pos rfl]) | (rw [if_neg h]) | simp
set_option maxHeartbeats 4000000 in
set_option maxRecDepth 100000 in
theorem law_core {p : Program} {e : Env} {s : State} {m : MethodId} {below : List Frame} {meth : Method} {c : Code} {Q : State → Prop} (l : Launch) (hl9 : l.stackTraces = false) {b L : Nat} {xs : Nat → Int32} (hL : L ≤ 260) (dC : Nat → ClassId) (dI : Nat → Nat → Nat) (ca : Nat → ClassId)
    (hx : p.tables.exec = Jvm.exec) (hb : c.code = cL_law) (hml : c.maxLocals = 17) (hown : s.vm.findClass RL = some m.cls) (hts : ∀ w ∈ wsL_law, w.before #[Value.ref b] s = true) (hX : va_X b L xs s s.heap) (hbl : b < s.heap.size) (hK : va_K (dC, dI) vwCl (zt ca) s) (hN : z_N zw_nest s) (hXo : zAO s) (hEx : zEx (fun q => s.heap.size ≤ q) s)
    (hend : ∀ (H : Heap) (ls : Array Slot), W p l e room_1 s m #[Value.ref b] below meth c H [] 877211 6470066 Q (F0 m 612 ls [.int 1])) : W p l e room_1 s m #[Value.ref b] below meth c s.heap [] 0 0 Q (entryFrame m ([Value.ref b] : List Value).toArray 17) := by
  have hbA : ¬ (fun q => s.heap.size ≤ q) b := Nat.not_le.mpr hbl
  have hS : va_S (fun q => s.heap.size ≤ q) s.heap s.heap [] := va_S.rf
  have hl := lv_entry ([.ref b]) (n := 17) (Nat.le_of_ble_eq_true rfl)
  rw [lg_entry_eq]
  generalize (lg_sl ([.ref b]) ++ List.replicate (17 - (lg_sl ([.ref b])).length) Slot.unset).toArray = ls at hl ⊢
  have hl : lv_has ls 17 [(0, .ref b)] := hl
  refine lv_aload_n hx hb dL_law_0 rfl (lv_at hl 0 rfl) ?_
  refine z_cOf (mc := 103) (ms := 522) (rest := []) ⟨hx, hb, hml, hown, hts⟩ (m_L_of l dC dI ca s.heap.size b L hL xs) (cwS 1 hts gL_law_L_of rfl rfl rfl (by decide +kernel) ⟨Nat.le_of_ble_eq_true rfl, Nat.le_of_ble_eq_true rfl⟩) hX hbl hK hN hXo rfl hl.1 rfl (Nat.le_of_ble_eq_true rfl) dL_law_1 ⟨Nat.le_of_ble_eq_true rfl, Nat.le_of_ble_eq_true rfl⟩ hS (fun _ h => h) (fun sf H locs hE hS => ?_)
  obtain ⟨hsf, M, nb, nf, nw, ns, hn1, hv, hT, hH, hG⟩ := hE
  obtain ⟨ad, had⟩ : ∃ z, z = zL1 s.heap.size := ⟨_, rfl⟩
  obtain ⟨ad2, had2⟩ : ∃ z, z = zL2 s.heap.size := ⟨_, rfl⟩
  have hT : zT dC dI ca sf (ad 0) (ad2 0) H := by rw [hsf, had, had2]; exact hT
  have hH : zW dC dI ca ad M H := by rw [had]; exact hH
  have hG : zW dC dI ca ad2 zMi H := by rw [had2]; exact hG
  have hI : z_I zd ad := by rw [had]; exact zL1_I
  have hI2 : z_I zd ad2 := by rw [had2]; exact zL2_I
  have hq : zSep sf ad ad2 := by rw [hsf, had, had2]; exact zL_sep
  have hAA : ∀ q, zA2 ad ad2 q → (fun q => s.heap.size ≤ q) q := by rw [had, had2]; exact zL_A
  have hLi0 := hv.li hn1
  have hinb := hv.inb hn1
  obtain ⟨td, htd⟩ : ∃ z, z = M 11 0 := ⟨_, rfl⟩
  rw [← htd] at hLi0 hinb
  have hOk := hLi0.ok
  have hnw6 := hLi0.nw6
  have hnb8 := hLi0.nb8
  refine lv_astore_n (lv' := [(1, .ref sf), (0, .ref b)]) hx hb dL_law_4 rfl hl (by decide) rfl (fun ls hl => ?_)
  refine lv_aload_n hx hb dL_law_5 rfl (lv_at hl 0 rfl) ?_
  refine lv_iconst (v := 0) hx hb dL_law_6 (by decide) ?_
  refine z_cVi (D := (dC, dI)) (cl := vwCl) (tys := zt ca) (nw := zw_nest) (C := RX8) (As := [.int 0]) (rest := []) ⟨hx, hb, hml, hown, hts⟩ (m_X8_many l dC dI ca sf ad hI ad2 hI2 hq M zMi 0 hOk ⟨by decide, by decide⟩) (cwV 1 hts gL_law_X8_many rfl rfl rfl (by decide +kernel) ⟨Nat.le_of_ble_eq_true rfl, Nat.le_of_ble_eq_true rfl⟩) (z_recv (ci := 8) (i := 0) hK hT rfl (by decide) rfl) ⟨hT, hH, hG⟩ hK hN zw_nest_ok rfl hl.1 rfl (Nat.le_of_ble_eq_true rfl) dL_law_7 ⟨(by show 103 ≤ 877211; omega), (by show 522 ≤ 6470066; omega)⟩ hS hAA (fun H locs hB1 oq1 hz1 hS => ?_)
  obtain ⟨hT, hH, hG⟩ := hB1
  refine lv_topi (fun x1 ex1 => ?_)
  refine lv_istore_n (lv' := [(2, .int x1), (1, .ref sf), (0, .ref b)]) hx hb dL_law_10 rfl hl (by decide) rfl (fun ls hl => ?_)
  refine lv_aload_n hx hb dL_law_11 rfl (lv_at hl 1 rfl) ?_
  refine lv_iconst (v := 2) hx hb dL_law_12 (by decide) ?_
  refine z_cVi (D := (dC, dI)) (cl := vwCl) (tys := zt ca) (nw := zw_nest) (C := RX8) (As := [.int 2]) (rest := []) ⟨hx, hb, hml, hown, hts⟩ (m_X8_many l dC dI ca sf ad hI ad2 hI2 hq M zMi 2 hOk ⟨by decide, by decide⟩) (cwV 1 hts gL_law_X8_many rfl rfl rfl (by decide +kernel) ⟨Nat.le_of_ble_eq_true rfl, Nat.le_of_ble_eq_true rfl⟩) (z_recv (ci := 8) (i := 0) hK hT rfl (by decide) rfl) ⟨hT, hH, hG⟩ hK hN zw_nest_ok rfl hl.1 rfl (Nat.le_of_ble_eq_true rfl) dL_law_13 ⟨(by show 103 ≤ 877211; omega), (by show 522 ≤ 6470066; omega)⟩ hS hAA (fun H locs hB1 oq1 hz1 hS => ?_)
  obtain ⟨hT, hH, hG⟩ := hB1
  refine lv_topi (fun x2 ex2 => ?_)
  refine lv_istore_n (lv' := [(3, .int x2), (2, .int x1), (1, .ref sf), (0, .ref b)]) hx hb dL_law_16 rfl hl (by decide) rfl (fun ls hl => ?_)
  refine lv_aload_n hx hb dL_law_17 rfl (lv_at hl 2 rfl) ?_
  refine lv_iconst (v := 3) hx hb dL_law_18 (by decide) ?_
  refine z_cVi (D := (dC, dI)) (cl := vwCl) (tys := zt ca) (nw := zw_nest) (C := RX8) (As := [.int 3]) (rest := []) ⟨hx, hb, hml, hown, hts⟩ (m_X8_many l dC dI ca sf ad hI ad2 hI2 hq M zMi 3 hOk ⟨by decide, by decide⟩) (cwV 1 hts gL_law_X8_many rfl rfl rfl (by decide +kernel) ⟨Nat.le_of_ble_eq_true rfl, Nat.le_of_ble_eq_true rfl⟩) (z_recv (ci := 8) (i := 0) hK hT rfl (by decide) rfl) ⟨hT, hH, hG⟩ hK hN zw_nest_ok rfl hl.1 rfl (Nat.le_of_ble_eq_true rfl) dL_law_19 ⟨(by show 103 ≤ 877211; omega), (by show 522 ≤ 6470066; omega)⟩ hS hAA (fun H locs hB1 oq1 hz1 hS => ?_)
  obtain ⟨hT, hH, hG⟩ := hB1
  refine lv_topi (fun x3 ex3 => ?_)
  refine lv_istore (lv' := [(4, .int x3), (3, .int x2), (2, .int x1), (1, .ref sf), (0, .ref b)]) hx hb dL_law_22 hl (by decide) rfl (fun ls hl => ?_)
  refine lv_aload_n hx hb dL_law_24 rfl (lv_at hl 3 rfl) ?_
  refine lv_iconst (v := 1) hx hb dL_law_25 (by decide) ?_
  refine z_cVi (D := (dC, dI)) (cl := vwCl) (tys := zt ca) (nw := zw_nest) (C := RX8) (As := [.int 1]) (rest := []) ⟨hx, hb, hml, hown, hts⟩ (m_X8_mass l dC dI ca sf ad hI ad2 hI2 hq M zMi 1 hOk ⟨by decide, by decide⟩) (cwV 1 hts gL_law_X8_mass rfl rfl rfl (by decide +kernel) ⟨Nat.le_of_ble_eq_true rfl, Nat.le_of_ble_eq_true rfl⟩) (z_recv (ci := 8) (i := 0) hK hT rfl (by decide) rfl) ⟨hT, hH, hG⟩ hK hN zw_nest_ok rfl hl.1 rfl (Nat.le_of_ble_eq_true rfl) dL_law_26 ⟨(by show 103 ≤ 877211; omega), (by show 522 ≤ 6470066; omega)⟩ hS hAA (fun H locs hB1 oq1 hz1 hS => ?_)
  obtain ⟨hT, hH, hG⟩ := hB1
  refine lv_topi (fun x4 ex4 => ?_)
  refine lv_istore (lv' := [(5, .int x4), (4, .int x3), (3, .int x2), (2, .int x1), (1, .ref sf), (0, .ref b)]) hx hb dL_law_29 hl (by decide) rfl (fun ls hl => ?_)
  have ea0 : x1 = nI nb := by rw [ex1, (q_mn M zMi).1, hLi0.ok.c10, hLi0.c10]
  have ea1 : x2 = nI nw := by rw [ex2, (q_mn M zMi).2.2.1, hLi0.ok.c12, hLi0.c12]
  have ea2 : x3 = nI ns := by rw [ex3, (q_mn M zMi).2.2.2.1, hLi0.ok.c13, hLi0.c13]
  have e5 : x4 = td := by rw [ex4, (q_ma M zMi).2.1]; exact hinb
  refine lv_bipush (v := 20) hx hb dL_law_31 (by decide) ?_
  refine lv_istore (lv' := [(6, .int 20), (5, .int x4), (4, .int x3), (3, .int x2), (2, .int x1), (1, .ref sf), (0, .ref b)]) hx hb dL_law_33 hl (by decide) rfl (fun ls hl => ?_)
  refine lv_iconst (v := 0) hx hb dL_law_35 (by decide) ?_
  refine lv_istore (lv' := [(7, .int 0), (6, .int 20), (5, .int x4), (4, .int x3), (3, .int x2), (2, .int x1), (1, .ref sf), (0, .ref b)]) hx hb dL_law_36 hl (by decide) rfl (fun ls hl => ?_)
  refine lv_iconst (v := 0) hx hb dL_law_38 (by decide) ?_
  refine lv_istore (lv' := [(8, .int 0), (7, .int 0), (6, .int 20), (5, .int x4), (4, .int x3), (3, .int x2), (2, .int x1), (1, .ref sf), (0, .ref b)]) hx hb dL_law_39 hl (by decide) rfl (fun ls hl => ?_)
  refine lv_iconst (v := 0) hx hb dL_law_41 (by decide) ?_
  refine lv_istore (lv' := [(9, .int 0), (8, .int 0), (7, .int 0), (6, .int 20), (5, .int x4), (4, .int x3), (3, .int x2), (2, .int x1), (1, .ref sf), (0, .ref b)]) hx hb dL_law_42 hl (by decide) rfl (fun ls hl => ?_)
  have L12 : ∀ (d7 k5 : Nat), k5 ≤ 70 → 70 - k5 < d7 → ∀ M11 : zM, ∀ a8 : Int32, ∀ a9 : Int32, ∀ a10 : Int32, (zLi nb nw ns k5 td a8 a9 a10 M11) → ∀ i6 : Int32, i6 = nI k5 → ∀ ls : Array Slot, lv_has ls 17 [(0, .ref b), (1, .ref sf), (2, .int x1), (3, .int x2), (4, .int x3), (5, .int x4), (6, .int a8), (7, .int a9), (8, .int a10), (9, .int i6)] → ∀ (H : Heap) (locs : List Loc), zT dC dI ca sf (ad 0) (ad2 0) H → zW dC dI ca ad M11 H → zW dC dI ca ad2 zMi H → va_S (fun q => s.heap.size ≤ q) s.heap H locs → W p l e room_1 s m ([.ref b] : List Value).toArray below meth c H locs (103 + k5) (522 + 6 * k5) Q (F0 m 44 ls []) := by
    intro d7
    induction d7 with
    | zero => intro k5 hk5 hd; exact absurd hd (by omega)
    | succ d7 ihk5 =>
      intro k5 hk5 hd M11 a8 a9 a10 vk5 i6 ei6 ls hl H locs hT hH hG hS
      have hOk := vk5.ok
      refine lv_iload hx hb dL_law_44 (lv_at hl 9 rfl) ?_
      refine lv_bipush (v := 70) hx hb dL_law_46 (by decide) ?_
      refine lv_icmp_ge (tgt := 580) hx hb dL_law_48 (by decide) (fun c13 => ?_) (fun c13 => ?_)
      · have hkk5 : k5 = 70 := z_ge rfl ei6 hk5 (by decide) c13
        rw [hkk5] at vk5
        have hOk := vk5.ok
        refine lv_aload_n hx hb dL_law_580 rfl (lv_at hl 1 rfl) ?_
        refine z_cVl (D := (dC, dI)) (cl := vwCl) (tys := zt ca) (nw := zw_nest) (C := RX8) (As := []) (rest := []) ⟨hx, hb, hml, hown, hts⟩ (m_X8_digestQ l dC dI ca sf ad hI ad2 hI2 hq M11 zMi hOk vk5.s6.2.1) (cwV 0 hts gL_law_X8_digest rfl rfl rfl (by decide +kernel) ⟨Nat.le_of_ble_eq_true rfl, Nat.le_of_ble_eq_true rfl⟩) (z_recv (ci := 8) (i := 0) hK hT rfl (by decide) rfl) ⟨hT, hH, hG⟩ hK hN zw_nest_ok rfl hl.1 rfl (Nat.le_of_ble_eq_true rfl) dL_law_581 ⟨(by show (103 + k5) ≤ 877211; omega), (by show (522 + 6 * k5) ≤ 6470066; omega)⟩ hS hAA (fun H locs hB1 oq1 hz1 hS => ?_)
        obtain ⟨hT, hH, hG⟩ := hB1
        refine lv_topl (fun y14 ey14 => ?_)
        obtain ⟨M15, hM15⟩ : ∃ z : zM, z = gX8_digestQ M11 zMi  := ⟨_, rfl⟩
        have hG : z_H (dC, dI) vwCl zf ca zd ad2 M15 H := by rw [hM15]; exact hG
        refine lv_lstore (lv' := [(9, .long y14), (0, .ref b), (1, .ref sf), (2, .int x1), (3, .int x2), (4, .int x3), (5, .int x4), (6, .int a8), (7, .int a9), (8, .int a10)]) hx hb dL_law_584 hl (by decide) rfl (fun ls hl => ?_)
        refine lv_aload_n hx hb dL_law_586 rfl (lv_at hl 2 rfl) ?_
        refine lv_iload_n hx hb dL_law_587 rfl (lv_at hl 3 rfl) ?_
        refine lv_iload_n hx hb dL_law_588 rfl (lv_at hl 4 rfl) ?_
        refine lv_iload hx hb dL_law_589 (lv_at hl 5 rfl) ?_
        refine z_cSi (D := (dC, dI)) (cl := vwCl) (tys := zt ca) (nw := zw_nest) (As := [.ref sf, .int x1, .int x2, .int x3]) (rest := []) ⟨hx, hb, hml, hown, hts⟩ (m_L_isSo l dC dI ca sf ad hI ad2 hI2 hq M11 M15 nb ((70 : Nat) : Int) x1 x2 x3 hOk (vk5).inv hn1 ⟨by omega, by omega⟩ (by rw [(vk5).c10]; exact ea0) (by rw [(vk5).c12]; exact ea1) (by rw [(vk5).c13]; exact ea2)) (cwS 4 hts gL_law_L_isSo rfl rfl rfl (by decide +kernel) ⟨Nat.le_of_ble_eq_true rfl, Nat.le_of_ble_eq_true rfl⟩) ⟨hT, hH, hG⟩ hK hN zw_nest_ok rfl hl.1 rfl (Nat.le_of_ble_eq_true rfl) dL_law_591 ⟨(by show (103 + k5) ≤ 877211; omega), (by show (522 + 6 * k5) ≤ 6470066; omega)⟩ hS hAA (fun H locs hB1 oq1 hz1 hS => ?_)
        obtain ⟨hT, hH, hG⟩ := hB1
        refine lv_topi (fun x16 ex16 => ?_)
        refine lv_if_eq (tgt := 611) hx hb dL_law_594 (by decide) (fun c17 => absurd c17 (by rw [ex16]; decide)) (fun c17 => ?_)
        refine lv_aload_n hx hb dL_law_597 rfl (lv_at hl 2 rfl) ?_
        refine z_cVl (D := (dC, dI)) (cl := vwCl) (tys := zt ca) (nw := zw_nest) (C := RX8) (As := []) (rest := []) ⟨hx, hb, hml, hown, hts⟩ (m_X8_digestQ l dC dI ca sf ad hI ad2 hI2 hq M11 M15 hOk vk5.s6.2.1) (cwV 0 hts gL_law_X8_digest rfl rfl rfl (by decide +kernel) ⟨Nat.le_of_ble_eq_true rfl, Nat.le_of_ble_eq_true rfl⟩) (z_recv (ci := 8) (i := 0) hK hT rfl (by decide) rfl) ⟨hT, hH, hG⟩ hK hN zw_nest_ok rfl hl.1 rfl (Nat.le_of_ble_eq_true rfl) dL_law_598 ⟨(by show (103 + k5) ≤ 877211; omega), (by show (522 + 6 * k5) ≤ 6470066; omega)⟩ hS hAA (fun H locs hB1 oq1 hz1 hS => ?_)
        obtain ⟨hT, hH, hG⟩ := hB1
        refine lv_topl (fun y18 ey18 => ?_)
        obtain ⟨M19, hM19⟩ : ∃ z : zM, z = gX8_digestQ M11 M15  := ⟨_, rfl⟩
        have hG : z_H (dC, dI) vwCl zf ca zd ad2 M19 H := by rw [hM19]; exact hG
        refine lv_lload hx hb dL_law_601 (lv_at hl 0 rfl) ?_
        refine W.lcmp hx hb dL_law_603 ?_
        refine lv_topi (fun x20 ex20 => ?_)
        refine lv_if_ne (tgt := 611) hx hb dL_law_604 (by decide) (fun c21 => absurd c21 (not_not_intro (by rw [ex20, ey18, ey14, k_dig _ _ zMi]; exact q_cmp0 _))) (fun c21 => ?_)
        refine lv_iconst (v := 1) hx hb dL_law_607 (by decide) ?_
        refine lv_goto (tgt := 612) hx hb dL_law_608 (by decide) ?_
        refine va_forget hS.2.2 ?_
        refine W.widen (k := 877211) (n := 6470066) (by omega) (by omega) ?_
        exact hend H ls
      · have hkk5 : k5 < 70 := z_lt rfl ei6 hk5 (by decide) c13
        refine lv_aload_n hx hb dL_law_51 rfl (lv_at hl 0 rfl) ?_
        refine lv_bipush (v := 14) hx hb dL_law_52 (by decide) ?_
        refine lv_iload hx hb dL_law_54 (lv_at hl 9 rfl) ?_
        refine lv_bipush (v := 16) hx hb dL_law_56 (by decide) ?_
        refine lv_irem hx hb dL_law_58 (by decide) ?_
        refine lv_topi (fun x22 ex22 => ?_)
        refine lv_iadd hx hb dL_law_59 ?_
        refine lv_topi (fun x23 ex23 => ?_)
        refine z_cXp (As := [.ref b, .int x23]) (rest := []) ⟨hx, hb, hml, hown, hts⟩ (m_L_cell l b L hL xs (fun H => zT dC dI ca sf (ad 0) (ad2 0) H ∧ zW dC dI ca ad M11 H ∧ zW dC dI ca ad2 zMi H) x23 (q_nnt (k := k5) ei6 (by omega) ex22 ex23)) (cwS 2 hts gL_law_L_cell rfl rfl rfl (by decide +kernel) ⟨Nat.le_of_ble_eq_true rfl, Nat.le_of_ble_eq_true rfl⟩) hX hbl hbA ⟨hT, hH, hG⟩ rfl hl.1 rfl (Nat.le_of_ble_eq_true rfl) dL_law_60 ⟨(by show (103 + k5) ≤ 877211; omega), (by show (522 + 6 * k5) ≤ 6470066; omega)⟩ hS (fun _ h => h.elim) (fun x24 _ H locs hB1 oq1 hz1 hS => ?_)
        obtain ⟨hT, hH, hG⟩ := hB1
        refine lv_iload hx hb dL_law_63 (lv_at hl 9 rfl) ?_
        refine lv_bipush (v := 16) hx hb dL_law_65 (by decide) ?_
        refine lv_idiv hx hb dL_law_67 (by decide) ?_
        refine lv_topi (fun x25 ex25 => ?_)
        refine lv_iconst (v := 3) hx hb dL_law_68 (by decide) ?_
        refine lv_imul hx hb dL_law_69 ?_
        refine lv_topi (fun x26 ex26 => ?_)
        refine lv_ishr hx hb dL_law_70 ?_
        refine lv_topi (fun x27 ex27 => ?_)
        refine lv_istore (lv' := [(10, .int x27), (0, .ref b), (1, .ref sf), (2, .int x1), (3, .int x2), (4, .int x3), (5, .int x4), (6, .int a8), (7, .int a9), (8, .int a10), (9, .int i6)]) hx hb dL_law_71 hl (by decide) rfl (fun ls hl => ?_)
        refine lv_iload_n hx hb dL_law_73 rfl (lv_at hl 4 rfl) ?_
        have J29 : ∀ v28 : Int32, (v28 = (-1) ∨ ∃ k, k < nw ∧ v28 = nI k) → ∀ ls : Array Slot, lv_has ls 17 [(10, .int x27), (0, .ref b), (1, .ref sf), (2, .int x1), (3, .int x2), (4, .int x3), (5, .int x4), (6, .int a8), (7, .int a9), (8, .int a10), (9, .int i6)] → ∀ (H : Heap) (locs : List Loc), zT dC dI ca sf (ad 0) (ad2 0) H → zW dC dI ca ad M11 H → zW dC dI ca ad2 zMi H → va_S (fun q => s.heap.size ≤ q) s.heap H locs → W p l e room_1 s m ([.ref b] : List Value).toArray below meth c H locs (103 + k5) (522 + 6 * k5) Q (F0 m 89 ls [.int v28]) := by
          intro v28 p30 ls hl H locs hT hH hG hS
          refine lv_istore (lv' := [(11, .int v28), (10, .int x27), (0, .ref b), (1, .ref sf), (2, .int x1), (3, .int x2), (4, .int x3), (5, .int x4), (6, .int a8), (7, .int a9), (8, .int a10), (9, .int i6)]) hx hb dL_law_89 hl (by decide) rfl (fun ls hl => ?_)
          refine lv_iload hx hb dL_law_91 (lv_at hl 1 rfl) ?_
          refine lv_bipush (v := 9) hx hb dL_law_93 (by decide) ?_
          refine z_cSi (D := (dC, dI)) (cl := vwCl) (tys := zt ca) (nw := zw_nest) (As := [.int x27, .int 9]) (rest := []) ⟨hx, hb, hml, hown, hts⟩ (m_L_below l dC dI ca (fun H => zT dC dI ca sf (ad 0) (ad2 0) H ∧ zW dC dI ca ad M11 H ∧ zW dC dI ca ad2 zMi H) x27 9 (by decide)) (cwS 2 hts gL_law_L_below rfl rfl rfl (by decide +kernel) ⟨Nat.le_of_ble_eq_true rfl, Nat.le_of_ble_eq_true rfl⟩) ⟨hT, hH, hG⟩ hK hN zw_nest_ok rfl hl.1 rfl (Nat.le_of_ble_eq_true rfl) dL_law_95 ⟨(by show (103 + k5) ≤ 877211; omega), (by show (522 + 6 * k5) ≤ 6470066; omega)⟩ hS (fun _ h => h.elim) (fun H locs hB1 oq1 hz1 hS => ?_)
          obtain ⟨hT, hH, hG⟩ := hB1
          refine lv_topi (fun x32 ex32 => ?_)
          have gx32 : 0 ≤ x32.toInt ∧ x32.toInt < 9 := by rw [ex32]; exact q_belowL 9 rfl (by decide)
          have J33 : ∀ M35 : zM, ∀ a36 a37 a38 : Int32, zLi nb nw ns (k5 + 1) td a36 a37 a38 M35 → ∀ ls : Array Slot, lv_has ls 17 [(0, .ref b), (1, .ref sf), (2, .int x1), (3, .int x2), (4, .int x3), (5, .int x4), (6, .int a36), (7, .int a37), (8, .int a38), (9, .int i6)] → ∀ (H : Heap) (locs : List Loc), zT dC dI ca sf (ad 0) (ad2 0) H → zW dC dI ca ad M35 H → zW dC dI ca ad2 zMi H → va_S (fun q => s.heap.size ≤ q) s.heap H locs → W p l e room_1 s m ([.ref b] : List Value).toArray below meth c H locs (103 + (k5 + 1)) (522 + 6 * (k5 + 1)) Q (F0 m 540 ls []) := by
            intro M35 a36 a37 a38 p34 ls hl H locs hT hH hG hS
            have hOk := p34.ok
            refine lv_aload_n hx hb dL_law_540 rfl (lv_at hl 1 rfl) ?_
            refine lv_iconst (v := 0) hx hb dL_law_541 (by decide) ?_
            refine z_cVi (D := (dC, dI)) (cl := vwCl) (tys := zt ca) (nw := zw_nest) (C := RX8) (As := [.int 0]) (rest := []) ⟨hx, hb, hml, hown, hts⟩ (m_X8_mass l dC dI ca sf ad hI ad2 hI2 hq M35 zMi 0 hOk ⟨by decide, by decide⟩) (cwV 1 hts gL_law_X8_mass rfl rfl rfl (by decide +kernel) ⟨Nat.le_of_ble_eq_true rfl, Nat.le_of_ble_eq_true rfl⟩) (z_recv (ci := 8) (i := 0) hK hT rfl (by decide) rfl) ⟨hT, hH, hG⟩ hK hN zw_nest_ok rfl hl.1 rfl (Nat.le_of_ble_eq_true rfl) dL_law_542 ⟨(by show (103 + (k5 + 1)) ≤ 877211; omega), (by show (522 + 6 * (k5 + 1)) ≤ 6470066; omega)⟩ hS hAA (fun H locs hB1 oq1 hz1 hS => ?_)
            obtain ⟨hT, hH, hG⟩ := hB1
            refine lv_topi (fun x39 ex39 => ?_)
            refine lv_iload hx hb dL_law_545 (lv_at hl 5 rfl) ?_
            refine lv_icmp_ne (tgt := 572) hx hb dL_law_547 (by decide) (fun c40 => absurd c40 (not_not_intro (by rw [ex39, (q_ma M35 zMi).1, e5]; exact p34.told))) (fun c40 => ?_)
            refine lv_aload_n hx hb dL_law_550 rfl (lv_at hl 1 rfl) ?_
            refine lv_bipush (v := 8) hx hb dL_law_551 (by decide) ?_
            refine z_cVi (D := (dC, dI)) (cl := vwCl) (tys := zt ca) (nw := zw_nest) (C := RX8) (As := [.int 8]) (rest := []) ⟨hx, hb, hml, hown, hts⟩ (m_X8_many l dC dI ca sf ad hI ad2 hI2 hq M35 zMi 8 hOk ⟨by decide, by decide⟩) (cwV 1 hts gL_law_X8_many rfl rfl rfl (by decide +kernel) ⟨Nat.le_of_ble_eq_true rfl, Nat.le_of_ble_eq_true rfl⟩) (z_recv (ci := 8) (i := 0) hK hT rfl (by decide) rfl) ⟨hT, hH, hG⟩ hK hN zw_nest_ok rfl hl.1 rfl (Nat.le_of_ble_eq_true rfl) dL_law_553 ⟨(by show (103 + (k5 + 1)) ≤ 877211; omega), (by show (522 + 6 * (k5 + 1)) ≤ 6470066; omega)⟩ hS hAA (fun H locs hB1 oq1 hz1 hS => ?_)
            obtain ⟨hT, hH, hG⟩ := hB1
            refine lv_topi (fun x41 ex41 => ?_)
            refine lv_iload hx hb dL_law_556 (lv_at hl 6 rfl) ?_
            refine lv_icmp_ne (tgt := 572) hx hb dL_law_558 (by decide) (fun c42 => absurd c42 (not_not_intro (by rw [ex41, (q_mn M35 zMi).2.2.2.2.2.2.2.1]; exact p34.size))) (fun c42 => ?_)
            refine lv_aload_n hx hb dL_law_561 rfl (lv_at hl 1 rfl) ?_
            refine lv_iload_n hx hb dL_law_562 rfl (lv_at hl 2 rfl) ?_
            refine lv_iload_n hx hb dL_law_563 rfl (lv_at hl 3 rfl) ?_
            refine lv_iload hx hb dL_law_564 (lv_at hl 4 rfl) ?_
            refine z_cSi (D := (dC, dI)) (cl := vwCl) (tys := zt ca) (nw := zw_nest) (As := [.ref sf, .int x1, .int x2, .int x3]) (rest := []) ⟨hx, hb, hml, hown, hts⟩ (m_L_isSo l dC dI ca sf ad hI ad2 hI2 hq M35 zMi nb (((k5 + 1) : Nat) : Int) x1 x2 x3 hOk (p34).inv hn1 ⟨by omega, by omega⟩ (by rw [(p34).c10]; exact ea0) (by rw [(p34).c12]; exact ea1) (by rw [(p34).c13]; exact ea2)) (cwS 4 hts gL_law_L_isSo rfl rfl rfl (by decide +kernel) ⟨Nat.le_of_ble_eq_true rfl, Nat.le_of_ble_eq_true rfl⟩) ⟨hT, hH, hG⟩ hK hN zw_nest_ok rfl hl.1 rfl (Nat.le_of_ble_eq_true rfl) dL_law_566 ⟨(by show (103 + (k5 + 1)) ≤ 877211; omega), (by show (522 + 6 * (k5 + 1)) ≤ 6470066; omega)⟩ hS hAA (fun H locs hB1 oq1 hz1 hS => ?_)
            obtain ⟨hT, hH, hG⟩ := hB1
            refine lv_topi (fun x43 ex43 => ?_)
            refine lv_if_ne (tgt := 574) hx hb dL_law_569 (by decide) (fun c44 => ?_) (fun c44 => absurd c44 (by rw [ex43]; decide))
            obtain ⟨x45, ex45⟩ : ∃ z : Int32, z = i6 + 1 := ⟨_, rfl⟩
            refine lv_iinc (v := x45) (lv' := [(9, .int x45), (0, .ref b), (1, .ref sf), (2, .int x1), (3, .int x2), (4, .int x3), (5, .int x4), (6, .int a36), (7, .int a37), (8, .int a38)]) hx hb dL_law_574 hl (k := 9) rfl (by rw [ex45]; rfl) (by decide) rfl (fun ls hl => ?_)
            refine lv_goto (tgt := 44) hx hb dL_law_577 (by decide) ?_
            exact ihk5 (k5 + 1) hkk5 (by omega) M35 a36 a37 a38 (p34) x45 (z_nx ei6 ex45) ls (lv_sub hl [1, 2, 3, 4, 5, 6, 7, 8, 9, 0] rfl) _ _ hT hH hG hS
          by_cases c46 : x32 = 0
          · refine lv_tableIn (off := 38) (tgt := 136) hx hb dL_law_98 (by rw [c46]; decide) (by rw [c46]; decide) (z_t c46 rfl) (by decide) ?_
            refine lv_iload hx hb dL_law_136 (lv_at hl 0 rfl) ?_
            refine lv_if_lt (tgt := 540) hx hb dL_law_138 (by decide) (fun c47 => ?_) (fun c47 => ?_)
            · refine W.widen (k := (103 + (k5 + 1))) (n := (522 + 6 * (k5 + 1))) (by omega) (by omega) ?_
              exact J33 M11 a8 a9 a10 (vk5.next) ls (lv_sub hl [2, 3, 4, 5, 6, 7, 8, 9, 10, 11] rfl) H locs hT hH hG hS
            · obtain ⟨kw, hkw, ekw⟩ := q_well p30 c47
              refine lv_aload_n hx hb dL_law_141 rfl (lv_at hl 3 rfl) ?_
              refine lv_iload hx hb dL_law_142 (lv_at hl 0 rfl) ?_
              refine lv_iload hx hb dL_law_144 (lv_at hl 1 rfl) ?_
              refine lv_bipush (v := 6) hx hb dL_law_146 (by decide) ?_
              refine lv_ishr hx hb dL_law_148 ?_
              refine lv_topi (fun x48 ex48 => ?_)
              refine lv_bipush (v := 10) hx hb dL_law_149 (by decide) ?_
              refine z_cSi (D := (dC, dI)) (cl := vwCl) (tys := zt ca) (nw := zw_nest) (As := [.int x48, .int 10]) (rest := [.int v28, .ref sf]) ⟨hx, hb, hml, hown, hts⟩ (m_L_below l dC dI ca (fun H => zT dC dI ca sf (ad 0) (ad2 0) H ∧ zW dC dI ca ad M11 H ∧ zW dC dI ca ad2 zMi H) x48 10 (by decide)) (cwS 2 hts gL_law_L_below rfl rfl rfl (by decide +kernel) ⟨Nat.le_of_ble_eq_true rfl, Nat.le_of_ble_eq_true rfl⟩) ⟨hT, hH, hG⟩ hK hN zw_nest_ok rfl hl.1 rfl (Nat.le_of_ble_eq_true rfl) dL_law_151 ⟨(by show (103 + k5) ≤ 877211; omega), (by show (522 + 6 * k5) ≤ 6470066; omega)⟩ hS (fun _ h => h.elim) (fun H locs hB1 oq1 hz1 hS => ?_)
              obtain ⟨hT, hH, hG⟩ := hB1
              refine lv_topi (fun x50 ex50 => ?_)
              have gx50 : 0 ≤ x50.toInt ∧ x50.toInt < 10 := by rw [ex50]; exact q_belowL 10 rfl (by decide)
              refine z_cVi (D := (dC, dI)) (cl := vwCl) (tys := zt ca) (nw := zw_nest) (C := RX8) (As := [.int v28, .int x50]) (rest := []) ⟨hx, hb, hml, hown, hts⟩ (m_X8_valve l dC dI ca sf ad hI ad2 hI2 hq M11 zMi v28 x50 hOk (by rw [(vk5).c12, ekw]; exact q_ixk hkw (by omega)) (q_rgk 0 9 rfl rfl (by omega) (by omega))) (cwV 2 hts gL_law_X8_valve rfl rfl rfl (by decide +kernel) ⟨Nat.le_of_ble_eq_true rfl, Nat.le_of_ble_eq_true rfl⟩) (z_recv (ci := 8) (i := 0) hK hT rfl (by decide) rfl) ⟨hT, hH, hG⟩ hK hN zw_nest_ok rfl hl.1 rfl (Nat.le_of_ble_eq_true rfl) dL_law_154 ⟨(by show (103 + k5) ≤ 877211; omega), (by show (522 + 6 * k5) ≤ 6470066; omega)⟩ hS hAA (fun H locs hB1 oq1 hz1 hS => ?_)
              obtain ⟨hT, hH, hG, hFc⟩ := hB1
              refine lv_topi (fun x51 ex51 => ?_)
              obtain ⟨M52, hM52⟩ : ∃ z : zM, z = fX8_valve M11 zMi v28 x50 := ⟨_, rfl⟩
              have hH : z_H (dC, dI) vwCl zf ca zd ad M52 H := by rw [hM52]; exact hH
              have hOk : z_Ok M52 := hOk.fx (by rw [hM52]; exact hFc)
              have hV := vk5.valve zMi hkw (a1 := x50) ekw (q_rgk 0 9 rfl rfl (by omega) (by omega)) (by rw [← hM52]; exact hOk)
              rw [← hM52, ← ex51] at hV
              refine lv_bipush (v := 9) hx hb dL_law_157 (by decide) ?_
              refine lv_icmp_le (tgt := 540) hx hb dL_law_159 (by decide) (fun c53 => ?_) (fun c53 => absurd c53 (not_not_intro (z_le_of hV.2)))
              refine W.widen (k := (103 + (k5 + 1))) (n := (522 + 6 * (k5 + 1))) (by omega) (by omega) ?_
              exact J33 M52 a8 a9 a10 (hV.1) ls (lv_sub hl [2, 3, 4, 5, 6, 7, 8, 9, 10, 11] rfl) H locs hT hH hG hS
          by_cases c54 : x32 = 1
          · refine lv_tableIn (off := 38) (tgt := 136) hx hb dL_law_98 (by rw [c54]; decide) (by rw [c54]; decide) (z_t c54 rfl) (by decide) ?_
            refine lv_iload hx hb dL_law_136 (lv_at hl 0 rfl) ?_
            refine lv_if_lt (tgt := 540) hx hb dL_law_138 (by decide) (fun c55 => ?_) (fun c55 => ?_)
            · refine W.widen (k := (103 + (k5 + 1))) (n := (522 + 6 * (k5 + 1))) (by omega) (by omega) ?_
              exact J33 M11 a8 a9 a10 (vk5.next) ls (lv_sub hl [2, 3, 4, 5, 6, 7, 8, 9, 10, 11] rfl) H locs hT hH hG hS
            · obtain ⟨kw, hkw, ekw⟩ := q_well p30 c55
              refine lv_aload_n hx hb dL_law_141 rfl (lv_at hl 3 rfl) ?_
              refine lv_iload hx hb dL_law_142 (lv_at hl 0 rfl) ?_
              refine lv_iload hx hb dL_law_144 (lv_at hl 1 rfl) ?_
              refine lv_bipush (v := 6) hx hb dL_law_146 (by decide) ?_
              refine lv_ishr hx hb dL_law_148 ?_
              refine lv_topi (fun x56 ex56 => ?_)
              refine lv_bipush (v := 10) hx hb dL_law_149 (by decide) ?_
              refine z_cSi (D := (dC, dI)) (cl := vwCl) (tys := zt ca) (nw := zw_nest) (As := [.int x56, .int 10]) (rest := [.int v28, .ref sf]) ⟨hx, hb, hml, hown, hts⟩ (m_L_below l dC dI ca (fun H => zT dC dI ca sf (ad 0) (ad2 0) H ∧ zW dC dI ca ad M11 H ∧ zW dC dI ca ad2 zMi H) x56 10 (by decide)) (cwS 2 hts gL_law_L_below rfl rfl rfl (by decide +kernel) ⟨Nat.le_of_ble_eq_true rfl, Nat.le_of_ble_eq_true rfl⟩) ⟨hT, hH, hG⟩ hK hN zw_nest_ok rfl hl.1 rfl (Nat.le_of_ble_eq_true rfl) dL_law_151 ⟨(by show (103 + k5) ≤ 877211; omega), (by show (522 + 6 * k5) ≤ 6470066; omega)⟩ hS (fun _ h => h.elim) (fun H locs hB1 oq1 hz1 hS => ?_)
              obtain ⟨hT, hH, hG⟩ := hB1
              refine lv_topi (fun x58 ex58 => ?_)
              have gx58 : 0 ≤ x58.toInt ∧ x58.toInt < 10 := by rw [ex58]; exact q_belowL 10 rfl (by decide)
              refine z_cVi (D := (dC, dI)) (cl := vwCl) (tys := zt ca) (nw := zw_nest) (C := RX8) (As := [.int v28, .int x58]) (rest := []) ⟨hx, hb, hml, hown, hts⟩ (m_X8_valve l dC dI ca sf ad hI ad2 hI2 hq M11 zMi v28 x58 hOk (by rw [(vk5).c12, ekw]; exact q_ixk hkw (by omega)) (q_rgk 0 9 rfl rfl (by omega) (by omega))) (cwV 2 hts gL_law_X8_valve rfl rfl rfl (by decide +kernel) ⟨Nat.le_of_ble_eq_true rfl, Nat.le_of_ble_eq_true rfl⟩) (z_recv (ci := 8) (i := 0) hK hT rfl (by decide) rfl) ⟨hT, hH, hG⟩ hK hN zw_nest_ok rfl hl.1 rfl (Nat.le_of_ble_eq_true rfl) dL_law_154 ⟨(by show (103 + k5) ≤ 877211; omega), (by show (522 + 6 * k5) ≤ 6470066; omega)⟩ hS hAA (fun H locs hB1 oq1 hz1 hS => ?_)
              obtain ⟨hT, hH, hG, hFc⟩ := hB1
              refine lv_topi (fun x59 ex59 => ?_)
              obtain ⟨M60, hM60⟩ : ∃ z : zM, z = fX8_valve M11 zMi v28 x58 := ⟨_, rfl⟩
              have hH : z_H (dC, dI) vwCl zf ca zd ad M60 H := by rw [hM60]; exact hH
              have hOk : z_Ok M60 := hOk.fx (by rw [hM60]; exact hFc)
              have hV := vk5.valve zMi hkw (a1 := x58) ekw (q_rgk 0 9 rfl rfl (by omega) (by omega)) (by rw [← hM60]; exact hOk)
              rw [← hM60, ← ex59] at hV
              refine lv_bipush (v := 9) hx hb dL_law_157 (by decide) ?_
              refine lv_icmp_le (tgt := 540) hx hb dL_law_159 (by decide) (fun c61 => ?_) (fun c61 => absurd c61 (not_not_intro (z_le_of hV.2)))
              refine W.widen (k := (103 + (k5 + 1))) (n := (522 + 6 * (k5 + 1))) (by omega) (by omega) ?_
              exact J33 M60 a8 a9 a10 (hV.1) ls (lv_sub hl [2, 3, 4, 5, 6, 7, 8, 9, 10, 11] rfl) H locs hT hH hG hS
          by_cases c62 : x32 = 2
          · refine lv_tableIn (off := 66) (tgt := 164) hx hb dL_law_98 (by rw [c62]; decide) (by rw [c62]; decide) (z_t c62 rfl) (by decide) ?_
            refine lv_iload hx hb dL_law_164 (lv_at hl 0 rfl) ?_
            refine lv_if_lt (tgt := 540) hx hb dL_law_166 (by decide) (fun c63 => ?_) (fun c63 => ?_)
            · refine W.widen (k := (103 + (k5 + 1))) (n := (522 + 6 * (k5 + 1))) (by omega) (by omega) ?_
              exact J33 M11 a8 a9 a10 (vk5.next) ls (lv_sub hl [2, 3, 4, 5, 6, 7, 8, 9, 10, 11] rfl) H locs hT hH hG hS
            · obtain ⟨kw, hkw, ekw⟩ := q_well p30 c63
              refine lv_aload_n hx hb dL_law_169 rfl (lv_at hl 3 rfl) ?_
              refine lv_aload_n hx hb dL_law_170 rfl (lv_at hl 3 rfl) ?_
              refine lv_iload hx hb dL_law_171 (lv_at hl 0 rfl) ?_
              refine lv_iconst (v := 0) hx hb dL_law_173 (by decide) ?_
              refine z_cVi (D := (dC, dI)) (cl := vwCl) (tys := zt ca) (nw := zw_nest) (C := RX8) (As := [.int v28, .int 0]) (rest := [.ref sf]) ⟨hx, hb, hml, hown, hts⟩ (m_X8_ofWell l dC dI ca sf ad hI ad2 hI2 hq M11 zMi v28 0 hOk (by rw [(vk5).c12, ekw]; exact q_ixk hkw (by omega)) ⟨by decide, by decide⟩) (cwV 2 hts gL_law_X8_ofWell rfl rfl rfl (by decide +kernel) ⟨Nat.le_of_ble_eq_true rfl, Nat.le_of_ble_eq_true rfl⟩) (z_recv (ci := 8) (i := 0) hK hT rfl (by decide) rfl) ⟨hT, hH, hG⟩ hK hN zw_nest_ok rfl hl.1 rfl (Nat.le_of_ble_eq_true rfl) dL_law_174 ⟨(by show (103 + k5) ≤ 877211; omega), (by show (522 + 6 * k5) ≤ 6470066; omega)⟩ hS hAA (fun H locs hB1 oq1 hz1 hS => ?_)
              obtain ⟨hT, hH, hG⟩ := hB1
              refine lv_topi (fun x64 ex64 => ?_)
              refine lv_iconst (v := 0) hx hb dL_law_177 (by decide) ?_
              obtain ⟨bb, hbb, hbk⟩ := vk5.blk hkw
              have qx64 : x64 = nI bb := by rw [ex64, (q_ow (M := M11) (N := zMi) ekw (Nat.lt_of_lt_of_le hkw hnw6)).1]; exact hbk
              refine z_cVi (D := (dC, dI)) (cl := vwCl) (tys := zt ca) (nw := zw_nest) (C := RX8) (As := [.int x64, .int 0]) (rest := []) ⟨hx, hb, hml, hown, hts⟩ (m_X8_ofBlock l dC dI ca sf ad hI ad2 hI2 hq M11 zMi x64 0 hOk (by rw [vk5.c10, qx64]; exact q_ixk hbb (by omega)) ⟨by decide, by decide⟩) (cwV 2 hts gL_law_X8_ofBlock rfl rfl rfl (by decide +kernel) ⟨Nat.le_of_ble_eq_true rfl, Nat.le_of_ble_eq_true rfl⟩) (z_recv (ci := 8) (i := 0) hK hT rfl (by decide) rfl) ⟨hT, hH, hG⟩ hK hN zw_nest_ok rfl hl.1 rfl (Nat.le_of_ble_eq_true rfl) dL_law_178 ⟨(by show (103 + k5) ≤ 877211; omega), (by show (522 + 6 * k5) ≤ 6470066; omega)⟩ hS hAA (fun H locs hB1 oq1 hz1 hS => ?_)
              obtain ⟨hT, hH, hG⟩ := hB1
              refine lv_topi (fun x65 ex65 => ?_)
              refine lv_if_le (tgt := 540) hx hb dL_law_181 (by decide) (fun c66 => ?_) (fun c66 => ?_)
              · refine W.widen (k := (103 + (k5 + 1))) (n := (522 + 6 * (k5 + 1))) (by omega) (by omega) ?_
                exact J33 M11 a8 a9 a10 (vk5.next) ls (lv_sub hl [2, 3, 4, 5, 6, 7, 8, 9, 10, 11] rfl) H locs hT hH hG hS
              · refine lv_aload_n hx hb dL_law_184 rfl (lv_at hl 3 rfl) ?_
                refine lv_iload hx hb dL_law_185 (lv_at hl 0 rfl) ?_
                refine lv_iconst (v := 1) hx hb dL_law_187 (by decide) ?_
                refine lv_iload hx hb dL_law_188 (lv_at hl 1 rfl) ?_
                refine lv_iconst (v := 5) hx hb dL_law_190 (by decide) ?_
                refine lv_ishr hx hb dL_law_191 ?_
                refine lv_topi (fun x67 ex67 => ?_)
                refine lv_bipush (v := 50) hx hb dL_law_192 (by decide) ?_
                refine z_cSi (D := (dC, dI)) (cl := vwCl) (tys := zt ca) (nw := zw_nest) (As := [.int x67, .int 50]) (rest := [.int 1, .int v28, .ref sf]) ⟨hx, hb, hml, hown, hts⟩ (m_L_below l dC dI ca (fun H => zT dC dI ca sf (ad 0) (ad2 0) H ∧ zW dC dI ca ad M11 H ∧ zW dC dI ca ad2 zMi H) x67 50 (by decide)) (cwS 2 hts gL_law_L_below rfl rfl rfl (by decide +kernel) ⟨Nat.le_of_ble_eq_true rfl, Nat.le_of_ble_eq_true rfl⟩) ⟨hT, hH, hG⟩ hK hN zw_nest_ok rfl hl.1 rfl (Nat.le_of_ble_eq_true rfl) dL_law_194 ⟨(by show (103 + k5) ≤ 877211; omega), (by show (522 + 6 * k5) ≤ 6470066; omega)⟩ hS (fun _ h => h.elim) (fun H locs hB1 oq1 hz1 hS => ?_)
                obtain ⟨hT, hH, hG⟩ := hB1
                refine lv_topi (fun x69 ex69 => ?_)
                have gx69 : 0 ≤ x69.toInt ∧ x69.toInt < 50 := by rw [ex69]; exact q_belowL 50 rfl (by decide)
                refine lv_iadd hx hb dL_law_197 ?_
                refine lv_topi (fun x70 ex70 => ?_)
                have hm9 : ¬ M11 (30 + bb) 0 ≤ 0 := by rw [← (q_ob (M := M11) (N := zMi) qx64 (by omega)).1, ← ex65]; exact c66
                refine z_cVi (D := (dC, dI)) (cl := vwCl) (tys := zt ca) (nw := zw_nest) (C := RX8) (As := [.int v28, .int x70]) (rest := []) ⟨hx, hb, hml, hown, hts⟩ (m_X8_trace l dC dI ca sf ad hI ad2 hI2 hq M11 zMi v28 x70 hOk (by rw [(vk5).c12, ekw]; exact q_ixk hkw (by omega)) (q_rgk 1 999 rfl rfl (by rw [ex70, q_addc 1 rfl (by decide) (by decide) (by omega)]; omega) (by rw [ex70, q_addc 1 rfl (by decide) (by decide) (by omega)]; omega)) (q_hm (by omega) (by omega) ekw hbk hm9)) (cwV 2 hts gL_law_X8_trace rfl rfl rfl (by decide +kernel) ⟨Nat.le_of_ble_eq_true rfl, Nat.le_of_ble_eq_true rfl⟩) (z_recv (ci := 8) (i := 0) hK hT rfl (by decide) rfl) ⟨hT, hH, hG⟩ hK hN zw_nest_ok rfl hl.1 rfl (Nat.le_of_ble_eq_true rfl) dL_law_198 ⟨(by show (103 + k5) ≤ 877211; omega), (by show (522 + 6 * k5) ≤ 6470066; omega)⟩ hS hAA (fun H locs hB1 oq1 hz1 hS => ?_)
                obtain ⟨hT, hH, hG, hFc⟩ := hB1
                refine lv_topi (fun x71 ex71 => ?_)
                obtain ⟨M72, hM72⟩ : ∃ z : zM, z = fX8_trace M11 zMi v28 x70 := ⟨_, rfl⟩
                have hH : z_H (dC, dI) vwCl zf ca zd ad M72 H := by rw [hM72]; exact hH
                have hOk : z_Ok M72 := hOk.fx (by rw [hM72]; exact hFc)
                have hV := vk5.trace zMi hkk5 hkw hbb hbk (a1 := x70) ekw (by rw [ex70, q_addc 1 rfl (by decide) (by decide) (by omega)]; omega) (by rw [← hM72]; exact hOk)
                rw [← hM72, ← ex71] at hV
                refine lv_aload_n hx hb dL_law_201 rfl (lv_at hl 3 rfl) ?_
                refine lv_aload_n hx hb dL_law_202 rfl (lv_at hl 3 rfl) ?_
                refine lv_iload hx hb dL_law_203 (lv_at hl 0 rfl) ?_
                refine lv_iconst (v := 0) hx hb dL_law_205 (by decide) ?_
                refine z_cVi (D := (dC, dI)) (cl := vwCl) (tys := zt ca) (nw := zw_nest) (C := RX8) (As := [.int v28, .int 0]) (rest := [.ref sf, .int x71]) ⟨hx, hb, hml, hown, hts⟩ (m_X8_ofWell l dC dI ca sf ad hI ad2 hI2 hq M72 zMi v28 0 hOk (by rw [(hV.1).c12, ekw]; exact q_ixk hkw (by omega)) ⟨by decide, by decide⟩) (cwV 2 hts gL_law_X8_ofWell rfl rfl rfl (by decide +kernel) ⟨Nat.le_of_ble_eq_true rfl, Nat.le_of_ble_eq_true rfl⟩) (z_recv (ci := 8) (i := 0) hK hT rfl (by decide) rfl) ⟨hT, hH, hG⟩ hK hN zw_nest_ok rfl hl.1 rfl (Nat.le_of_ble_eq_true rfl) dL_law_206 ⟨(by show (103 + k5) ≤ 877211; omega), (by show (522 + 6 * k5) ≤ 6470066; omega)⟩ hS hAA (fun H locs hB1 oq1 hz1 hS => ?_)
                obtain ⟨hT, hH, hG⟩ := hB1
                refine lv_topi (fun x73 ex73 => ?_)
                refine lv_iconst (v := 3) hx hb dL_law_209 (by decide) ?_
                have qx73 : x73 = nI bb := by rw [ex73, (q_ow (M := M72) (N := zMi) ekw (Nat.lt_of_lt_of_le hkw hnw6)).1]; exact hV.2.2
                refine z_cVi (D := (dC, dI)) (cl := vwCl) (tys := zt ca) (nw := zw_nest) (C := RX8) (As := [.int x73, .int 3]) (rest := [.int x71]) ⟨hx, hb, hml, hown, hts⟩ (m_X8_ofBlock l dC dI ca sf ad hI ad2 hI2 hq M72 zMi x73 3 hOk (by rw [hV.1.c10, qx73]; exact q_ixk hbb (by omega)) ⟨by decide, by decide⟩) (cwV 2 hts gL_law_X8_ofBlock rfl rfl rfl (by decide +kernel) ⟨Nat.le_of_ble_eq_true rfl, Nat.le_of_ble_eq_true rfl⟩) (z_recv (ci := 8) (i := 0) hK hT rfl (by decide) rfl) ⟨hT, hH, hG⟩ hK hN zw_nest_ok rfl hl.1 rfl (Nat.le_of_ble_eq_true rfl) dL_law_210 ⟨(by show (103 + k5) ≤ 877211; omega), (by show (522 + 6 * k5) ≤ 6470066; omega)⟩ hS hAA (fun H locs hB1 oq1 hz1 hS => ?_)
                obtain ⟨hT, hH, hG⟩ := hB1
                refine lv_topi (fun x74 ex74 => ?_)
                refine lv_icmp_eq (tgt := 540) hx hb dL_law_213 (by decide) (fun c75 => ?_) (fun c75 => absurd c75 (not_not_intro (by rw [ex74, (q_ob (M := M72) (N := zMi) qx73 (by omega)).2.1]; exact hV.2.1)))
                refine W.widen (k := (103 + (k5 + 1))) (n := (522 + 6 * (k5 + 1))) (by omega) (by omega) ?_
                exact J33 M72 a8 a9 a10 (hV.1) ls (lv_sub hl [2, 3, 4, 5, 6, 7, 8, 9, 10, 11] rfl) H locs hT hH hG hS
          by_cases c76 : x32 = 3
          · refine lv_tableIn (off := 120) (tgt := 218) hx hb dL_law_98 (by rw [c76]; decide) (by rw [c76]; decide) (z_t c76 rfl) (by decide) ?_
            refine lv_iload hx hb dL_law_218 (lv_at hl 1 rfl) ?_
            refine lv_iconst (v := 3) hx hb dL_law_220 (by decide) ?_
            refine lv_ishr hx hb dL_law_221 ?_
            refine lv_topi (fun x77 ex77 => ?_)
            refine lv_iconst (v := 3) hx hb dL_law_222 (by decide) ?_
            refine z_cSi (D := (dC, dI)) (cl := vwCl) (tys := zt ca) (nw := zw_nest) (As := [.int x77, .int 3]) (rest := []) ⟨hx, hb, hml, hown, hts⟩ (m_L_below l dC dI ca (fun H => zT dC dI ca sf (ad 0) (ad2 0) H ∧ zW dC dI ca ad M11 H ∧ zW dC dI ca ad2 zMi H) x77 3 (by decide)) (cwS 2 hts gL_law_L_below rfl rfl rfl (by decide +kernel) ⟨Nat.le_of_ble_eq_true rfl, Nat.le_of_ble_eq_true rfl⟩) ⟨hT, hH, hG⟩ hK hN zw_nest_ok rfl hl.1 rfl (Nat.le_of_ble_eq_true rfl) dL_law_223 ⟨(by show (103 + k5) ≤ 877211; omega), (by show (522 + 6 * k5) ≤ 6470066; omega)⟩ hS (fun _ h => h.elim) (fun H locs hB1 oq1 hz1 hS => ?_)
            obtain ⟨hT, hH, hG⟩ := hB1
            refine lv_topi (fun x79 ex79 => ?_)
            have gx79 : 0 ≤ x79.toInt ∧ x79.toInt < 3 := by rw [ex79]; exact q_belowL 3 rfl (by decide)
            refine lv_if_ne (tgt := 540) hx hb dL_law_226 (by decide) (fun c80 => ?_) (fun c80 => ?_)
            · refine W.widen (k := (103 + (k5 + 1))) (n := (522 + 6 * (k5 + 1))) (by omega) (by omega) ?_
              exact J33 M11 a8 a9 a10 (vk5.next) ls (lv_sub hl [2, 3, 4, 5, 6, 7, 8, 9, 10, 11] rfl) H locs hT hH hG hS
            · refine lv_iload hx hb dL_law_229 (lv_at hl 0 rfl) ?_
              refine lv_if_lt (tgt := 540) hx hb dL_law_231 (by decide) (fun c81 => ?_) (fun c81 => ?_)
              · refine W.widen (k := (103 + (k5 + 1))) (n := (522 + 6 * (k5 + 1))) (by omega) (by omega) ?_
                exact J33 M11 a8 a9 a10 (vk5.next) ls (lv_sub hl [2, 3, 4, 5, 6, 7, 8, 9, 10, 11] rfl) H locs hT hH hG hS
              · obtain ⟨kw, hkw, ekw⟩ := q_well p30 c81
                refine lv_aload_n hx hb dL_law_234 rfl (lv_at hl 3 rfl) ?_
                refine lv_iload hx hb dL_law_235 (lv_at hl 0 rfl) ?_
                refine lv_iconst (v := 3) hx hb dL_law_237 (by decide) ?_
                refine z_cVi (D := (dC, dI)) (cl := vwCl) (tys := zt ca) (nw := zw_nest) (C := RX8) (As := [.int v28, .int 3]) (rest := []) ⟨hx, hb, hml, hown, hts⟩ (m_X8_ofWell l dC dI ca sf ad hI ad2 hI2 hq M11 zMi v28 3 hOk (by rw [(vk5).c12, ekw]; exact q_ixk hkw (by omega)) ⟨by decide, by decide⟩) (cwV 2 hts gL_law_X8_ofWell rfl rfl rfl (by decide +kernel) ⟨Nat.le_of_ble_eq_true rfl, Nat.le_of_ble_eq_true rfl⟩) (z_recv (ci := 8) (i := 0) hK hT rfl (by decide) rfl) ⟨hT, hH, hG⟩ hK hN zw_nest_ok rfl hl.1 rfl (Nat.le_of_ble_eq_true rfl) dL_law_238 ⟨(by show (103 + k5) ≤ 877211; omega), (by show (522 + 6 * k5) ≤ 6470066; omega)⟩ hS hAA (fun H locs hB1 oq1 hz1 hS => ?_)
                obtain ⟨hT, hH, hG⟩ := hB1
                refine lv_topi (fun x82 ex82 => ?_)
                refine lv_if_le (tgt := 540) hx hb dL_law_241 (by decide) (fun c83 => ?_) (fun c83 => ?_)
                · refine W.widen (k := (103 + (k5 + 1))) (n := (522 + 6 * (k5 + 1))) (by omega) (by omega) ?_
                  exact J33 M11 a8 a9 a10 (vk5.next) ls (lv_sub hl [2, 3, 4, 5, 6, 7, 8, 9, 10, 11] rfl) H locs hT hH hG hS
                · refine lv_aload_n hx hb dL_law_244 rfl (lv_at hl 3 rfl) ?_
                  refine lv_iload hx hb dL_law_245 (lv_at hl 0 rfl) ?_
                  refine z_cIC (mc := 1) (ms := 6) (P := fun M' => zLi nb nw ns (k5 + 1) td a8 a9 a10 M') (B' := (fun M' H => zT dC dI ca sf (ad 0) (ad2 0) H ∧ zW dC dI ca ad M' H ∧ zW dC dI ca ad2 zMi H)) (av := [.ref sf, .int v28]) (rest := []) ⟨hx, hb, hml, hown, hts⟩ (m_L_isCleaned l hl9 dC dI ca sf ad hI ad2 hI2 hq M11 zMi nb nw ns k5 td a8 a9 a10 v28 kw vk5 hkw ekw) (vx_cwSW 2 hts gL_law_L_isCleaned rfl rfl rfl (by decide +kernel) ⟨Nat.le_of_ble_eq_true rfl, Nat.le_of_ble_eq_true rfl⟩) ⟨hT, hH, hG⟩ hK hN hEx rfl hl.1 rfl (Nat.le_of_ble_eq_true rfl) dL_law_247 ⟨(by show (103 + k5) + 1 ≤ 877211; omega), (by show (522 + 6 * k5) + 6 ≤ 6470066; omega)⟩ hS hAA (fun M84 H locs hV hB1 hS => ?_)
                  obtain ⟨hT, hH, hG⟩ := hB1
                  have hOk := hV.ok
                  refine lv_topi (fun x85 ex85 => ?_)
                  refine lv_if_ne (tgt := 540) hx hb dL_law_250 (by decide) (fun c86 => ?_) (fun c86 => absurd c86 (by rw [ex85]; decide))
                  refine W.widen (k := (103 + (k5 + 1))) (n := (522 + 6 * (k5 + 1))) (by omega) (by omega) ?_
                  exact J33 M84 a8 a9 a10 (hV) ls (lv_sub hl [2, 3, 4, 5, 6, 7, 8, 9, 10, 11] rfl) H locs hT hH hG hS
          by_cases c87 : x32 = 4
          · refine lv_tableIn (off := 157) (tgt := 255) hx hb dL_law_98 (by rw [c87]; decide) (by rw [c87]; decide) (z_t c87 rfl) (by decide) ?_
            refine lv_aload_n hx hb dL_law_255 rfl (lv_at hl 3 rfl) ?_
            refine lv_iload hx hb dL_law_256 (lv_at hl 1 rfl) ?_
            refine lv_iconst (v := 4) hx hb dL_law_258 (by decide) ?_
            refine lv_ishr hx hb dL_law_259 ?_
            refine lv_topi (fun x88 ex88 => ?_)
            refine lv_bipush (v := 100) hx hb dL_law_260 (by decide) ?_
            refine z_cSi (D := (dC, dI)) (cl := vwCl) (tys := zt ca) (nw := zw_nest) (As := [.int x88, .int 100]) (rest := [.ref sf]) ⟨hx, hb, hml, hown, hts⟩ (m_L_below l dC dI ca (fun H => zT dC dI ca sf (ad 0) (ad2 0) H ∧ zW dC dI ca ad M11 H ∧ zW dC dI ca ad2 zMi H) x88 100 (by decide)) (cwS 2 hts gL_law_L_below rfl rfl rfl (by decide +kernel) ⟨Nat.le_of_ble_eq_true rfl, Nat.le_of_ble_eq_true rfl⟩) ⟨hT, hH, hG⟩ hK hN zw_nest_ok rfl hl.1 rfl (Nat.le_of_ble_eq_true rfl) dL_law_262 ⟨(by show (103 + k5) ≤ 877211; omega), (by show (522 + 6 * k5) ≤ 6470066; omega)⟩ hS (fun _ h => h.elim) (fun H locs hB1 oq1 hz1 hS => ?_)
            obtain ⟨hT, hH, hG⟩ := hB1
            refine lv_topi (fun x90 ex90 => ?_)
            have gx90 : 0 ≤ x90.toInt ∧ x90.toInt < 100 := by rw [ex90]; exact q_belowL 100 rfl (by decide)
            refine z_cVi (D := (dC, dI)) (cl := vwCl) (tys := zt ca) (nw := zw_nest) (C := RX8) (As := [.int x90]) (rest := []) ⟨hx, hb, hml, hown, hts⟩ (m_X8_turbine l dC dI ca sf ad hI ad2 hI2 hq M11 zMi x90 hOk (q_rgk 0 99 rfl rfl (by omega) (by omega))) (cwV 1 hts gL_law_X8_turbine rfl rfl rfl (by decide +kernel) ⟨Nat.le_of_ble_eq_true rfl, Nat.le_of_ble_eq_true rfl⟩) (z_recv (ci := 8) (i := 0) hK hT rfl (by decide) rfl) ⟨hT, hH, hG⟩ hK hN zw_nest_ok rfl hl.1 rfl (Nat.le_of_ble_eq_true rfl) dL_law_265 ⟨(by show (103 + k5) ≤ 877211; omega), (by show (522 + 6 * k5) ≤ 6470066; omega)⟩ hS hAA (fun H locs hB1 oq1 hz1 hS => ?_)
            obtain ⟨hT, hH, hG⟩ := hB1
            refine lv_topi (fun x91 ex91 => ?_)
            obtain ⟨M92, hM92⟩ : ∃ z : zM, z = fX8_turbine M11 zMi x90 := ⟨_, rfl⟩
            have hH : z_H (dC, dI) vwCl zf ca zd ad M92 H := by rw [hM92]; exact hH
            have hV := vk5.turbine zMi (a0 := x90) (q_rgk 0 99 rfl rfl (by omega) (by omega))
            rw [← hM92, ← ex91] at hV
            have hOk := hV.1.ok
            refine lv_iload hx hb dL_law_268 (lv_at hl 8 rfl) ?_
            refine lv_icmp_ne (tgt := 283) hx hb dL_law_270 (by decide) (fun c93 => absurd c93 (not_not_intro (by exact hV.2.1))) (fun c93 => ?_)
            refine lv_aload_n hx hb dL_law_273 rfl (lv_at hl 3 rfl) ?_
            refine lv_bipush (v := 7) hx hb dL_law_274 (by decide) ?_
            refine z_cVi (D := (dC, dI)) (cl := vwCl) (tys := zt ca) (nw := zw_nest) (C := RX8) (As := [.int 7]) (rest := []) ⟨hx, hb, hml, hown, hts⟩ (m_X8_many l dC dI ca sf ad hI ad2 hI2 hq M92 zMi 7 hOk ⟨by decide, by decide⟩) (cwV 1 hts gL_law_X8_many rfl rfl rfl (by decide +kernel) ⟨Nat.le_of_ble_eq_true rfl, Nat.le_of_ble_eq_true rfl⟩) (z_recv (ci := 8) (i := 0) hK hT rfl (by decide) rfl) ⟨hT, hH, hG⟩ hK hN zw_nest_ok rfl hl.1 rfl (Nat.le_of_ble_eq_true rfl) dL_law_276 ⟨(by show (103 + k5) ≤ 877211; omega), (by show (522 + 6 * k5) ≤ 6470066; omega)⟩ hS hAA (fun H locs hB1 oq1 hz1 hS => ?_)
            obtain ⟨hT, hH, hG⟩ := hB1
            refine lv_topi (fun x94 ex94 => ?_)
            refine lv_iconst (v := 1) hx hb dL_law_279 (by decide) ?_
            refine lv_icmp_eq (tgt := 285) hx hb dL_law_280 (by decide) (fun c95 => ?_) (fun c95 => absurd c95 (not_not_intro (by rw [ex94]; exact hV.2.2)))
            refine lv_iload hx hb dL_law_285 (lv_at hl 1 rfl) ?_
            refine lv_iconst (v := 4) hx hb dL_law_287 (by decide) ?_
            refine lv_ishr hx hb dL_law_288 ?_
            refine lv_topi (fun x96 ex96 => ?_)
            refine lv_bipush (v := 100) hx hb dL_law_289 (by decide) ?_
            refine z_cSi (D := (dC, dI)) (cl := vwCl) (tys := zt ca) (nw := zw_nest) (As := [.int x96, .int 100]) (rest := []) ⟨hx, hb, hml, hown, hts⟩ (m_L_below l dC dI ca (fun H => zT dC dI ca sf (ad 0) (ad2 0) H ∧ zW dC dI ca ad M92 H ∧ zW dC dI ca ad2 zMi H) x96 100 (by decide)) (cwS 2 hts gL_law_L_below rfl rfl rfl (by decide +kernel) ⟨Nat.le_of_ble_eq_true rfl, Nat.le_of_ble_eq_true rfl⟩) ⟨hT, hH, hG⟩ hK hN zw_nest_ok rfl hl.1 rfl (Nat.le_of_ble_eq_true rfl) dL_law_291 ⟨(by show (103 + k5) ≤ 877211; omega), (by show (522 + 6 * k5) ≤ 6470066; omega)⟩ hS (fun _ h => h.elim) (fun H locs hB1 oq1 hz1 hS => ?_)
            obtain ⟨hT, hH, hG⟩ := hB1
            refine lv_topi (fun x98 ex98 => ?_)
            have gx98 : 0 ≤ x98.toInt ∧ x98.toInt < 100 := by rw [ex98]; exact q_belowL 100 rfl (by decide)
            refine lv_istore (lv' := [(6, .int x98), (11, .int v28), (10, .int x27), (0, .ref b), (1, .ref sf), (2, .int x1), (3, .int x2), (4, .int x3), (5, .int x4), (7, .int a9), (8, .int a10), (9, .int i6)]) hx hb dL_law_294 hl (by decide) rfl (fun ls hl => ?_)
            refine lv_goto (tgt := 540) hx hb dL_law_296 (by decide) ?_
            have qx : x90 = x98 := by rw [ex90, ex88, ex98, ex96]
            refine W.widen (k := (103 + (k5 + 1))) (n := (522 + 6 * (k5 + 1))) (by omega) (by omega) ?_
            exact J33 M92 x98 a9 a10 (by rw [← qx]; exact hV.1) ls (lv_sub hl [3, 4, 5, 6, 7, 8, 0, 9, 10, 11] rfl) H locs hT hH hG hS
          by_cases c99 : x32 = 5
          · refine lv_tableIn (off := 201) (tgt := 299) hx hb dL_law_98 (by rw [c99]; decide) (by rw [c99]; decide) (z_t c99 rfl) (by decide) ?_
            refine lv_aload_n hx hb dL_law_299 rfl (lv_at hl 3 rfl) ?_
            refine lv_iload hx hb dL_law_300 (lv_at hl 1 rfl) ?_
            refine lv_iconst (v := 4) hx hb dL_law_302 (by decide) ?_
            refine lv_ishr hx hb dL_law_303 ?_
            refine lv_topi (fun x100 ex100 => ?_)
            refine lv_sipush (v := 1000) hx hb dL_law_304 (by decide) ?_
            refine z_cSi (D := (dC, dI)) (cl := vwCl) (tys := zt ca) (nw := zw_nest) (As := [.int x100, .int 1000]) (rest := [.ref sf]) ⟨hx, hb, hml, hown, hts⟩ (m_L_below l dC dI ca (fun H => zT dC dI ca sf (ad 0) (ad2 0) H ∧ zW dC dI ca ad M11 H ∧ zW dC dI ca ad2 zMi H) x100 1000 (by decide)) (cwS 2 hts gL_law_L_below rfl rfl rfl (by decide +kernel) ⟨Nat.le_of_ble_eq_true rfl, Nat.le_of_ble_eq_true rfl⟩) ⟨hT, hH, hG⟩ hK hN zw_nest_ok rfl hl.1 rfl (Nat.le_of_ble_eq_true rfl) dL_law_307 ⟨(by show (103 + k5) ≤ 877211; omega), (by show (522 + 6 * k5) ≤ 6470066; omega)⟩ hS (fun _ h => h.elim) (fun H locs hB1 oq1 hz1 hS => ?_)
            obtain ⟨hT, hH, hG⟩ := hB1
            refine lv_topi (fun x102 ex102 => ?_)
            have gx102 : 0 ≤ x102.toInt ∧ x102.toInt < 1000 := by rw [ex102]; exact q_belowL 1000 rfl (by decide)
            refine z_cVi (D := (dC, dI)) (cl := vwCl) (tys := zt ca) (nw := zw_nest) (C := RX8) (As := [.int x102]) (rest := []) ⟨hx, hb, hml, hown, hts⟩ (m_X8_town l dC dI ca sf ad hI ad2 hI2 hq M11 zMi x102 hOk (q_rgk 0 999 rfl rfl (by omega) (by omega))) (cwV 1 hts gL_law_X8_town rfl rfl rfl (by decide +kernel) ⟨Nat.le_of_ble_eq_true rfl, Nat.le_of_ble_eq_true rfl⟩) (z_recv (ci := 8) (i := 0) hK hT rfl (by decide) rfl) ⟨hT, hH, hG⟩ hK hN zw_nest_ok rfl hl.1 rfl (Nat.le_of_ble_eq_true rfl) dL_law_310 ⟨(by show (103 + k5) ≤ 877211; omega), (by show (522 + 6 * k5) ≤ 6470066; omega)⟩ hS hAA (fun H locs hB1 oq1 hz1 hS => ?_)
            obtain ⟨hT, hH, hG⟩ := hB1
            refine lv_topi (fun x103 ex103 => ?_)
            obtain ⟨M104, hM104⟩ : ∃ z : zM, z = fX8_town M11 zMi x102 := ⟨_, rfl⟩
            have hH : z_H (dC, dI) vwCl zf ca zd ad M104 H := by rw [hM104]; exact hH
            have hV := vk5.town zMi (a0 := x102) (q_rgk 0 999 rfl rfl (by omega) (by omega))
            rw [← hM104, ← ex103] at hV
            have hOk := hV.1.ok
            refine lv_iload hx hb dL_law_313 (lv_at hl 10 rfl) ?_
            refine lv_icmp_eq (tgt := 320) hx hb dL_law_315 (by decide) (fun c105 => ?_) (fun c105 => absurd c105 (not_not_intro (by exact hV.2)))
            refine lv_iload hx hb dL_law_320 (lv_at hl 1 rfl) ?_
            refine lv_iconst (v := 4) hx hb dL_law_322 (by decide) ?_
            refine lv_ishr hx hb dL_law_323 ?_
            refine lv_topi (fun x106 ex106 => ?_)
            refine lv_sipush (v := 1000) hx hb dL_law_324 (by decide) ?_
            refine z_cSi (D := (dC, dI)) (cl := vwCl) (tys := zt ca) (nw := zw_nest) (As := [.int x106, .int 1000]) (rest := []) ⟨hx, hb, hml, hown, hts⟩ (m_L_below l dC dI ca (fun H => zT dC dI ca sf (ad 0) (ad2 0) H ∧ zW dC dI ca ad M104 H ∧ zW dC dI ca ad2 zMi H) x106 1000 (by decide)) (cwS 2 hts gL_law_L_below rfl rfl rfl (by decide +kernel) ⟨Nat.le_of_ble_eq_true rfl, Nat.le_of_ble_eq_true rfl⟩) ⟨hT, hH, hG⟩ hK hN zw_nest_ok rfl hl.1 rfl (Nat.le_of_ble_eq_true rfl) dL_law_327 ⟨(by show (103 + k5) ≤ 877211; omega), (by show (522 + 6 * k5) ≤ 6470066; omega)⟩ hS (fun _ h => h.elim) (fun H locs hB1 oq1 hz1 hS => ?_)
            obtain ⟨hT, hH, hG⟩ := hB1
            refine lv_topi (fun x108 ex108 => ?_)
            have gx108 : 0 ≤ x108.toInt ∧ x108.toInt < 1000 := by rw [ex108]; exact q_belowL 1000 rfl (by decide)
            refine lv_istore (lv' := [(8, .int x108), (11, .int v28), (10, .int x27), (0, .ref b), (1, .ref sf), (2, .int x1), (3, .int x2), (4, .int x3), (5, .int x4), (6, .int a8), (7, .int a9), (9, .int i6)]) hx hb dL_law_330 hl (by decide) rfl (fun ls hl => ?_)
            refine lv_goto (tgt := 540) hx hb dL_law_332 (by decide) ?_
            have qx : x102 = x108 := by rw [ex102, ex100, ex108, ex106]
            refine W.widen (k := (103 + (k5 + 1))) (n := (522 + 6 * (k5 + 1))) (by omega) (by omega) ?_
            exact J33 M104 a8 a9 x108 (by rw [← qx]; exact hV.1) ls (lv_sub hl [3, 4, 5, 6, 7, 8, 9, 10, 0, 11] rfl) H locs hT hH hG hS
          refine lv_tableOut (tgt := 335) hx hb dL_law_98 (z_tout6 c46 c54 c62 c76 c87 c99) (by decide) ?_
          refine lv_aload_n hx hb dL_law_335 rfl (lv_at hl 3 rfl) ?_
          refine lv_iconst (v := 5) hx hb dL_law_336 (by decide) ?_
          refine z_cVi (D := (dC, dI)) (cl := vwCl) (tys := zt ca) (nw := zw_nest) (C := RX8) (As := [.int 5]) (rest := []) ⟨hx, hb, hml, hown, hts⟩ (m_X8_many l dC dI ca sf ad hI ad2 hI2 hq M11 zMi 5 hOk ⟨by decide, by decide⟩) (cwV 1 hts gL_law_X8_many rfl rfl rfl (by decide +kernel) ⟨Nat.le_of_ble_eq_true rfl, Nat.le_of_ble_eq_true rfl⟩) (z_recv (ci := 8) (i := 0) hK hT rfl (by decide) rfl) ⟨hT, hH, hG⟩ hK hN zw_nest_ok rfl hl.1 rfl (Nat.le_of_ble_eq_true rfl) dL_law_337 ⟨(by show (103 + k5) ≤ 877211; omega), (by show (522 + 6 * k5) ≤ 6470066; omega)⟩ hS hAA (fun H locs hB1 oq1 hz1 hS => ?_)
          obtain ⟨hT, hH, hG⟩ := hB1
          refine lv_topi (fun x109 ex109 => ?_)
          refine lv_istore (lv' := [(12, .int x109), (11, .int v28), (10, .int x27), (0, .ref b), (1, .ref sf), (2, .int x1), (3, .int x2), (4, .int x3), (5, .int x4), (6, .int a8), (7, .int a9), (8, .int a10), (9, .int i6)]) hx hb dL_law_340 hl (by decide) rfl (fun ls hl => ?_)
          refine lv_aload_n hx hb dL_law_342 rfl (lv_at hl 4 rfl) ?_
          refine lv_iconst (v := 3) hx hb dL_law_343 (by decide) ?_
          refine z_cVi (D := (dC, dI)) (cl := vwCl) (tys := zt ca) (nw := zw_nest) (C := RX8) (As := [.int 3]) (rest := []) ⟨hx, hb, hml, hown, hts⟩ (m_X8_mass l dC dI ca sf ad hI ad2 hI2 hq M11 zMi 3 hOk ⟨by decide, by decide⟩) (cwV 1 hts gL_law_X8_mass rfl rfl rfl (by decide +kernel) ⟨Nat.le_of_ble_eq_true rfl, Nat.le_of_ble_eq_true rfl⟩) (z_recv (ci := 8) (i := 0) hK hT rfl (by decide) rfl) ⟨hT, hH, hG⟩ hK hN zw_nest_ok rfl hl.1 rfl (Nat.le_of_ble_eq_true rfl) dL_law_344 ⟨(by show (103 + k5) ≤ 877211; omega), (by show (522 + 6 * k5) ≤ 6470066; omega)⟩ hS hAA (fun H locs hB1 oq1 hz1 hS => ?_)
          obtain ⟨hT, hH, hG⟩ := hB1
          refine lv_topi (fun x110 ex110 => ?_)
          refine lv_istore (lv' := [(13, .int x110), (12, .int x109), (11, .int v28), (10, .int x27), (0, .ref b), (1, .ref sf), (2, .int x1), (3, .int x2), (4, .int x3), (5, .int x4), (6, .int a8), (7, .int a9), (8, .int a10), (9, .int i6)]) hx hb dL_law_347 hl (by decide) rfl (fun ls hl => ?_)
          refine lv_aload_n hx hb dL_law_349 rfl (lv_at hl 5 rfl) ?_
          refine lv_iconst (v := 1) hx hb dL_law_350 (by decide) ?_
          refine z_cVi (D := (dC, dI)) (cl := vwCl) (tys := zt ca) (nw := zw_nest) (C := RX8) (As := [.int 1]) (rest := []) ⟨hx, hb, hml, hown, hts⟩ (m_X8_run l dC dI ca sf ad hI ad2 hI2 hq M11 zMi 1 hOk ⟨by decide, by decide⟩) (cwV 1 hts gL_law_X8_run rfl rfl rfl (by decide +kernel) ⟨Nat.le_of_ble_eq_true rfl, Nat.le_of_ble_eq_true rfl⟩) (z_recv (ci := 8) (i := 0) hK hT rfl (by decide) rfl) ⟨hT, hH, hG⟩ hK hN zw_nest_ok rfl hl.1 rfl (Nat.le_of_ble_eq_true rfl) dL_law_351 ⟨(by show (103 + k5) ≤ 877211; omega), (by show (522 + 6 * k5) ≤ 6470066; omega)⟩ hS hAA (fun H locs hB1 oq1 hz1 hS => ?_)
          obtain ⟨hT, hH, hG, hFc⟩ := hB1
          refine lv_topi (fun x111 ex111 => ?_)
          obtain ⟨M112, hM112⟩ : ∃ z : zM, z = fX8_run M11 zMi 1 := ⟨_, rfl⟩
          have hH : z_H (dC, dI) vwCl zf ca zd ad M112 H := by rw [hM112]; exact hH
          have hOk : z_Ok M112 := hOk.fx (by rw [hM112]; exact hFc)
          have hV := vk5.run zMi hkk5 (by rw [← hM112]; exact hOk)
          rw [← hM112, ← ex111] at hV
          refine lv_istore (lv' := [(14, .int x111), (13, .int x110), (12, .int x109), (11, .int v28), (10, .int x27), (0, .ref b), (1, .ref sf), (2, .int x1), (3, .int x2), (4, .int x3), (5, .int x4), (6, .int a8), (7, .int a9), (8, .int a10), (9, .int i6)]) hx hb dL_law_354 hl (by decide) rfl (fun ls hl => ?_)
          refine lv_iload hx hb dL_law_356 (lv_at hl 12 rfl) ?_
          refine lv_iload hx hb dL_law_358 (lv_at hl 0 rfl) ?_
          refine lv_iadd hx hb dL_law_360 ?_
          refine lv_topi (fun x113 ex113 => ?_)
          refine lv_istore (lv' := [(7, .int x113), (14, .int x111), (13, .int x110), (12, .int x109), (11, .int v28), (10, .int x27), (0, .ref b), (1, .ref sf), (2, .int x1), (3, .int x2), (4, .int x3), (5, .int x4), (6, .int a8), (8, .int a10), (9, .int i6)]) hx hb dL_law_361 hl (by decide) rfl (fun ls hl => ?_)
          refine lv_iload hx hb dL_law_363 (lv_at hl 1 rfl) ?_
          refine lv_iconst (v := 2) hx hb dL_law_365 (by decide) ?_
          refine lv_aload_n hx hb dL_law_366 rfl (lv_at hl 7 rfl) ?_
          refine lv_iconst (v := 3) hx hb dL_law_367 (by decide) ?_
          refine z_cVi (D := (dC, dI)) (cl := vwCl) (tys := zt ca) (nw := zw_nest) (C := RX8) (As := [.int 3]) (rest := [.int 2, .int x111]) ⟨hx, hb, hml, hown, hts⟩ (m_X8_mass l dC dI ca sf ad hI ad2 hI2 hq M112 zMi 3 hOk ⟨by decide, by decide⟩) (cwV 1 hts gL_law_X8_mass rfl rfl rfl (by decide +kernel) ⟨Nat.le_of_ble_eq_true rfl, Nat.le_of_ble_eq_true rfl⟩) (z_recv (ci := 8) (i := 0) hK hT rfl (by decide) rfl) ⟨hT, hH, hG⟩ hK hN zw_nest_ok rfl hl.1 rfl (Nat.le_of_ble_eq_true rfl) dL_law_368 ⟨(by show (103 + k5) ≤ 877211; omega), (by show (522 + 6 * k5) ≤ 6470066; omega)⟩ hS hAA (fun H locs hB1 oq1 hz1 hS => ?_)
          obtain ⟨hT, hH, hG⟩ := hB1
          refine lv_topi (fun x114 ex114 => ?_)
          refine lv_iload hx hb dL_law_371 (lv_at hl 2 rfl) ?_
          refine lv_isub hx hb dL_law_373 ?_
          refine lv_topi (fun x115 ex115 => ?_)
          refine lv_imul hx hb dL_law_374 ?_
          refine lv_topi (fun x116 ex116 => ?_)
          refine lv_icmp_ne (tgt := 429) hx hb dL_law_375 (by decide) (fun c117 => absurd c117 (not_not_intro (by rw [ex116, ex115, ex114, ex110, (q_ma M112 zMi).2.2.2.1, (q_ma M11 zMi).2.2.2.1]; exact hV.2.1))) (fun c117 => ?_)
          refine lv_iload hx hb dL_law_378 (lv_at hl 1 rfl) ?_
          refine lv_iconst (v := 2) hx hb dL_law_380 (by decide) ?_
          refine lv_iload hx hb dL_law_381 (lv_at hl 12 rfl) ?_
          refine lv_imul hx hb dL_law_383 ?_
          refine lv_topi (fun x118 ex118 => ?_)
          refine lv_icmp_gt (tgt := 429) hx hb dL_law_384 (by decide) (fun c119 => absurd c119 (by rw [ex118]; exact hV.2.2.1)) (fun c119 => ?_)
          refine lv_aload_n hx hb dL_law_387 rfl (lv_at hl 7 rfl) ?_
          refine lv_bipush (v := 9) hx hb dL_law_388 (by decide) ?_
          refine z_cVi (D := (dC, dI)) (cl := vwCl) (tys := zt ca) (nw := zw_nest) (C := RX8) (As := [.int 9]) (rest := []) ⟨hx, hb, hml, hown, hts⟩ (m_X8_many l dC dI ca sf ad hI ad2 hI2 hq M112 zMi 9 hOk ⟨by decide, by decide⟩) (cwV 1 hts gL_law_X8_many rfl rfl rfl (by decide +kernel) ⟨Nat.le_of_ble_eq_true rfl, Nat.le_of_ble_eq_true rfl⟩) (z_recv (ci := 8) (i := 0) hK hT rfl (by decide) rfl) ⟨hT, hH, hG⟩ hK hN zw_nest_ok rfl hl.1 rfl (Nat.le_of_ble_eq_true rfl) dL_law_390 ⟨(by show (103 + k5) ≤ 877211; omega), (by show (522 + 6 * k5) ≤ 6470066; omega)⟩ hS hAA (fun H locs hB1 oq1 hz1 hS => ?_)
          obtain ⟨hT, hH, hG⟩ := hB1
          refine lv_topi (fun x120 ex120 => ?_)
          refine lv_iload hx hb dL_law_393 (lv_at hl 1 rfl) ?_
          refine lv_icmp_ne (tgt := 429) hx hb dL_law_395 (by decide) (fun c121 => absurd c121 (not_not_intro (by rw [ex120, (q_mn M112 zMi).2.2.2.2.2.2.2.2.1]; exact hV.2.2.2.1))) (fun c121 => ?_)
          refine lv_aload_n hx hb dL_law_398 rfl (lv_at hl 7 rfl) ?_
          refine lv_bipush (v := 10) hx hb dL_law_399 (by decide) ?_
          refine z_cVi (D := (dC, dI)) (cl := vwCl) (tys := zt ca) (nw := zw_nest) (C := RX8) (As := [.int 10]) (rest := []) ⟨hx, hb, hml, hown, hts⟩ (m_X8_many l dC dI ca sf ad hI ad2 hI2 hq M112 zMi 10 hOk ⟨by decide, by decide⟩) (cwV 1 hts gL_law_X8_many rfl rfl rfl (by decide +kernel) ⟨Nat.le_of_ble_eq_true rfl, Nat.le_of_ble_eq_true rfl⟩) (z_recv (ci := 8) (i := 0) hK hT rfl (by decide) rfl) ⟨hT, hH, hG⟩ hK hN zw_nest_ok rfl hl.1 rfl (Nat.le_of_ble_eq_true rfl) dL_law_401 ⟨(by show (103 + k5) ≤ 877211; omega), (by show (522 + 6 * k5) ≤ 6470066; omega)⟩ hS hAA (fun H locs hB1 oq1 hz1 hS => ?_)
          obtain ⟨hT, hH, hG⟩ := hB1
          refine lv_topi (fun x122 ex122 => ?_)
          refine lv_iload hx hb dL_law_404 (lv_at hl 0 rfl) ?_
          refine lv_icmp_ne (tgt := 429) hx hb dL_law_406 (by decide) (fun c123 => absurd c123 (not_not_intro (by rw [ex122, ex113, (q_mn M112 zMi).2.2.2.2.2.2.2.2.2.1]; exact hV.1.pow))) (fun c123 => ?_)
          refine lv_aload_n hx hb dL_law_409 rfl (lv_at hl 7 rfl) ?_
          refine lv_bipush (v := 11) hx hb dL_law_410 (by decide) ?_
          refine z_cVi (D := (dC, dI)) (cl := vwCl) (tys := zt ca) (nw := zw_nest) (C := RX8) (As := [.int 11]) (rest := []) ⟨hx, hb, hml, hown, hts⟩ (m_X8_many l dC dI ca sf ad hI ad2 hI2 hq M112 zMi 11 hOk ⟨by decide, by decide⟩) (cwV 1 hts gL_law_X8_many rfl rfl rfl (by decide +kernel) ⟨Nat.le_of_ble_eq_true rfl, Nat.le_of_ble_eq_true rfl⟩) (z_recv (ci := 8) (i := 0) hK hT rfl (by decide) rfl) ⟨hT, hH, hG⟩ hK hN zw_nest_ok rfl hl.1 rfl (Nat.le_of_ble_eq_true rfl) dL_law_412 ⟨(by show (103 + k5) ≤ 877211; omega), (by show (522 + 6 * k5) ≤ 6470066; omega)⟩ hS hAA (fun H locs hB1 oq1 hz1 hS => ?_)
          obtain ⟨hT, hH, hG⟩ := hB1
          refine lv_topi (fun x124 ex124 => ?_)
          refine lv_iload hx hb dL_law_415 (lv_at hl 13 rfl) ?_
          refine lv_icmp_gt (tgt := 429) hx hb dL_law_417 (by decide) (fun c125 => absurd c125 (by rw [ex124, (q_mn M112 zMi).2.2.2.2.2.2.2.2.2.2.1]; exact hV.2.2.2.2.1)) (fun c125 => ?_)
          refine lv_aload_n hx hb dL_law_420 rfl (lv_at hl 7 rfl) ?_
          refine lv_bipush (v := 6) hx hb dL_law_421 (by decide) ?_
          refine z_cVi (D := (dC, dI)) (cl := vwCl) (tys := zt ca) (nw := zw_nest) (C := RX8) (As := [.int 6]) (rest := []) ⟨hx, hb, hml, hown, hts⟩ (m_X8_many l dC dI ca sf ad hI ad2 hI2 hq M112 zMi 6 hOk ⟨by decide, by decide⟩) (cwV 1 hts gL_law_X8_many rfl rfl rfl (by decide +kernel) ⟨Nat.le_of_ble_eq_true rfl, Nat.le_of_ble_eq_true rfl⟩) (z_recv (ci := 8) (i := 0) hK hT rfl (by decide) rfl) ⟨hT, hH, hG⟩ hK hN zw_nest_ok rfl hl.1 rfl (Nat.le_of_ble_eq_true rfl) dL_law_423 ⟨(by show (103 + k5) ≤ 877211; omega), (by show (522 + 6 * k5) ≤ 6470066; omega)⟩ hS hAA (fun H locs hB1 oq1 hz1 hS => ?_)
          obtain ⟨hT, hH, hG⟩ := hB1
          refine lv_topi (fun x126 ex126 => ?_)
          refine lv_if_ge (tgt := 431) hx hb dL_law_426 (by decide) (fun c127 => ?_) (fun c127 => absurd c127 (not_not_intro (by rw [ex126, (q_mn M112 zMi).2.2.2.2.2.1]; exact z_le_of hV.2.2.2.2.2.1)))
          have elt : x109 = rX3_light M11 := by rw [ex109, (q_mn M11 zMi).2.2.2.2.1]
          refine lv_iconst (v := 0) hx hb dL_law_431 (by decide) ?_
          refine lv_istore (lv' := [(15, .int 0), (7, .int x113), (14, .int x111), (13, .int x110), (12, .int x109), (11, .int v28), (10, .int x27), (0, .ref b), (1, .ref sf), (2, .int x1), (3, .int x2), (4, .int x3), (5, .int x4), (6, .int a8), (8, .int a10), (9, .int i6)]) hx hb dL_law_432 hl (by decide) rfl (fun ls hl => ?_)
          have L131 : ∀ (d130 k128 : Nat), k128 ≤ nw → nw - k128 < d130 → (True) → ∀ i129 : Int32, i129 = nI k128 → ∀ ls : Array Slot, lv_has ls 17 [(0, .ref b), (1, .ref sf), (2, .int x1), (3, .int x2), (4, .int x3), (5, .int x4), (6, .int a8), (7, .int x113), (8, .int a10), (9, .int i6), (10, .int x27), (11, .int v28), (12, .int x109), (13, .int x110), (14, .int x111), (15, .int i129)] → ∀ (H : Heap) (locs : List Loc), zT dC dI ca sf (ad 0) (ad2 0) H → zW dC dI ca ad M112 H → zW dC dI ca ad2 zMi H → va_S (fun q => s.heap.size ≤ q) s.heap H locs → W p l e room_1 s m ([.ref b] : List Value).toArray below meth c H locs (103 + k5) (522 + 6 * k5) Q (F0 m 434 ls []) := by
            intro d130
            induction d130 with
            | zero => intro k128 hk128 hd; exact absurd hd (by omega)
            | succ d130 ihk128 =>
              intro k128 hk128 hd vk128 i129 ei129 ls hl H locs hT hH hG hS
              refine lv_iload hx hb dL_law_434 (lv_at hl 15 rfl) ?_
              refine lv_iload_n hx hb dL_law_436 rfl (lv_at hl 3 rfl) ?_
              refine lv_icmp_ge (tgt := 540) hx hb dL_law_437 (by decide) (fun c132 => ?_) (fun c132 => ?_)
              · have hkk128 : k128 = nw := z_ge ea1 ei129 hk128 (by omega) c132
                refine W.widen (k := (103 + (k5 + 1))) (n := (522 + 6 * (k5 + 1))) (by omega) (by omega) ?_
                exact J33 M112 a8 x113 a10 (by rw [ex113]; exact hV.1) ls (lv_sub hl [0, 1, 2, 3, 4, 5, 6, 7, 8, 9] rfl) H locs hT hH hG hS
              · have hkk128 : k128 < nw := z_lt ea1 ei129 hk128 (by omega) c132
                refine lv_iload hx hb dL_law_440 (lv_at hl 12 rfl) ?_
                have J134 : ∀ v133 : Int32, (v133 = zMs (rX3_light M11) (M112 (60 + k128) 2)) → ∀ ls : Array Slot, lv_has ls 17 [(0, .ref b), (1, .ref sf), (2, .int x1), (3, .int x2), (4, .int x3), (5, .int x4), (6, .int a8), (7, .int x113), (8, .int a10), (9, .int i6), (10, .int x27), (11, .int v28), (12, .int x109), (13, .int x110), (14, .int x111), (15, .int i129)] → ∀ (H : Heap) (locs : List Loc), zT dC dI ca sf (ad 0) (ad2 0) H → zW dC dI ca ad M112 H → zW dC dI ca ad2 zMi H → va_S (fun q => s.heap.size ≤ q) s.heap H locs → W p l e room_1 s m ([.ref b] : List Value).toArray below meth c H locs (103 + k5) (522 + 6 * k5) Q (F0 m 476 ls [.int v133]) := by
                  intro v133 p135 ls hl H locs hT hH hG hS
                  refine lv_istore (lv' := [(16, .int v133), (0, .ref b), (1, .ref sf), (2, .int x1), (3, .int x2), (4, .int x3), (5, .int x4), (6, .int a8), (7, .int x113), (8, .int a10), (9, .int i6), (10, .int x27), (11, .int v28), (12, .int x109), (13, .int x110), (14, .int x111), (15, .int i129)]) hx hb dL_law_476 hl (by decide) rfl (fun ls hl => ?_)
                  refine lv_aload_n hx hb dL_law_478 rfl (lv_at hl 2 rfl) ?_
                  refine lv_iload hx hb dL_law_479 (lv_at hl 16 rfl) ?_
                  refine lv_iconst (v := 1) hx hb dL_law_481 (by decide) ?_
                  refine z_cVi (D := (dC, dI)) (cl := vwCl) (tys := zt ca) (nw := zw_nest) (C := RX8) (As := [.int i129, .int 1]) (rest := []) ⟨hx, hb, hml, hown, hts⟩ (m_X8_ofWell l dC dI ca sf ad hI ad2 hI2 hq M112 zMi i129 1 hOk (by rw [hV.1.c12, ei129]; exact q_ixk hkk128 (by omega)) ⟨by decide, by decide⟩) (cwV 2 hts gL_law_X8_ofWell rfl rfl rfl (by decide +kernel) ⟨Nat.le_of_ble_eq_true rfl, Nat.le_of_ble_eq_true rfl⟩) (z_recv (ci := 8) (i := 0) hK hT rfl (by decide) rfl) ⟨hT, hH, hG⟩ hK hN zw_nest_ok rfl hl.1 rfl (Nat.le_of_ble_eq_true rfl) dL_law_482 ⟨(by show (103 + k5) ≤ 877211; omega), (by show (522 + 6 * k5) ≤ 6470066; omega)⟩ hS hAA (fun H locs hB1 oq1 hz1 hS => ?_)
                  obtain ⟨hT, hH, hG⟩ := hB1
                  refine lv_topi (fun x136 ex136 => ?_)
                  refine lv_iconst (v := 1) hx hb dL_law_485 (by decide) ?_
                  refine lv_icmp_ne (tgt := 512) hx hb dL_law_486 (by decide) (fun c137 => ?_) (fun c137 => ?_)
                  · refine lv_aload_n hx hb dL_law_512 rfl (lv_at hl 2 rfl) ?_
                    refine lv_iload hx hb dL_law_513 (lv_at hl 16 rfl) ?_
                    refine lv_iconst (v := 2) hx hb dL_law_515 (by decide) ?_
                    refine z_cVi (D := (dC, dI)) (cl := vwCl) (tys := zt ca) (nw := zw_nest) (C := RX8) (As := [.int i129, .int 2]) (rest := []) ⟨hx, hb, hml, hown, hts⟩ (m_X8_ofWell l dC dI ca sf ad hI ad2 hI2 hq M112 zMi i129 2 hOk (by rw [hV.1.c12, ei129]; exact q_ixk hkk128 (by omega)) ⟨by decide, by decide⟩) (cwV 2 hts gL_law_X8_ofWell rfl rfl rfl (by decide +kernel) ⟨Nat.le_of_ble_eq_true rfl, Nat.le_of_ble_eq_true rfl⟩) (z_recv (ci := 8) (i := 0) hK hT rfl (by decide) rfl) ⟨hT, hH, hG⟩ hK hN zw_nest_ok rfl hl.1 rfl (Nat.le_of_ble_eq_true rfl) dL_law_516 ⟨(by show (103 + k5) ≤ 877211; omega), (by show (522 + 6 * k5) ≤ 6470066; omega)⟩ hS hAA (fun H locs hB1 oq1 hz1 hS => ?_)
                    obtain ⟨hT, hH, hG⟩ := hB1
                    refine lv_topi (fun x138 ex138 => ?_)
                    refine lv_if_ne (tgt := 534) hx hb dL_law_519 (by decide) (fun c139 => ?_) (fun c139 => ?_)
                    · obtain ⟨x140, ex140⟩ : ∃ z : Int32, z = i129 + 1 := ⟨_, rfl⟩
                      refine lv_iinc (v := x140) (lv' := [(15, .int x140), (16, .int v133), (0, .ref b), (1, .ref sf), (2, .int x1), (3, .int x2), (4, .int x3), (5, .int x4), (6, .int a8), (7, .int x113), (8, .int a10), (9, .int i6), (10, .int x27), (11, .int v28), (12, .int x109), (13, .int x110), (14, .int x111)]) hx hb dL_law_534 hl (k := 16) rfl (by rw [ex140]; rfl) (by decide) rfl (fun ls hl => ?_)
                      refine lv_goto (tgt := 434) hx hb dL_law_537 (by decide) ?_
                      exact ihk128 (k128 + 1) hkk128 (by omega) (trivial) x140 (z_nx ei129 ex140) ls (lv_sub hl [2, 3, 4, 5, 6, 7, 8, 9, 10, 11, 12, 13, 14, 15, 16, 0] rfl) _ _ hT hH hG hS
                    · have hz2 : M112 (60 + k128) 2 = 0 := by rw [← (q_ow (M := M112) (N := zMi) ei129 (Nat.lt_of_lt_of_le hkk128 hnw6)).2.2.1, ← ex138]; exact c139
                      refine lv_aload_n hx hb dL_law_522 rfl (lv_at hl 2 rfl) ?_
                      refine lv_iload hx hb dL_law_523 (lv_at hl 16 rfl) ?_
                      refine lv_iconst (v := 5) hx hb dL_law_525 (by decide) ?_
                      refine z_cVi (D := (dC, dI)) (cl := vwCl) (tys := zt ca) (nw := zw_nest) (C := RX8) (As := [.int i129, .int 5]) (rest := []) ⟨hx, hb, hml, hown, hts⟩ (m_X8_ofWell l dC dI ca sf ad hI ad2 hI2 hq M112 zMi i129 5 hOk (by rw [hV.1.c12, ei129]; exact q_ixk hkk128 (by omega)) ⟨by decide, by decide⟩) (cwV 2 hts gL_law_X8_ofWell rfl rfl rfl (by decide +kernel) ⟨Nat.le_of_ble_eq_true rfl, Nat.le_of_ble_eq_true rfl⟩) (z_recv (ci := 8) (i := 0) hK hT rfl (by decide) rfl) ⟨hT, hH, hG⟩ hK hN zw_nest_ok rfl hl.1 rfl (Nat.le_of_ble_eq_true rfl) dL_law_526 ⟨(by show (103 + k5) ≤ 877211; omega), (by show (522 + 6 * k5) ≤ 6470066; omega)⟩ hS hAA (fun H locs hB1 oq1 hz1 hS => ?_)
                      obtain ⟨hT, hH, hG⟩ := hB1
                      refine lv_topi (fun x141 ex141 => ?_)
                      refine lv_if_eq (tgt := 534) hx hb dL_law_529 (by decide) (fun c142 => ?_) (fun c142 => absurd c142 (not_not_intro (by rw [ex141, (q_ow (M := M112) (N := zMi) ei129 (Nat.lt_of_lt_of_le hkk128 hnw6)).2.2.2.2.2.1]; exact (hV.2.2.2.2.2.2 _ hkk128).2 hz2)))
                      obtain ⟨x143, ex143⟩ : ∃ z : Int32, z = i129 + 1 := ⟨_, rfl⟩
                      refine lv_iinc (v := x143) (lv' := [(15, .int x143), (16, .int v133), (0, .ref b), (1, .ref sf), (2, .int x1), (3, .int x2), (4, .int x3), (5, .int x4), (6, .int a8), (7, .int x113), (8, .int a10), (9, .int i6), (10, .int x27), (11, .int v28), (12, .int x109), (13, .int x110), (14, .int x111)]) hx hb dL_law_534 hl (k := 16) rfl (by rw [ex143]; rfl) (by decide) rfl (fun ls hl => ?_)
                      refine lv_goto (tgt := 434) hx hb dL_law_537 (by decide) ?_
                      exact ihk128 (k128 + 1) hkk128 (by omega) (trivial) x143 (z_nx ei129 ex143) ls (lv_sub hl [2, 3, 4, 5, 6, 7, 8, 9, 10, 11, 12, 13, 14, 15, 16, 0] rfl) _ _ hT hH hG hS
                  · have hj := q_in1 (ex136.trans (q_ow (M := M112) (N := zMi) ei129 (Nat.lt_of_lt_of_le hkk128 hnw6)).2.1) c137
                    refine lv_aload_n hx hb dL_law_489 rfl (lv_at hl 2 rfl) ?_
                    refine lv_iload hx hb dL_law_490 (lv_at hl 16 rfl) ?_
                    refine lv_iconst (v := 5) hx hb dL_law_492 (by decide) ?_
                    refine z_cVi (D := (dC, dI)) (cl := vwCl) (tys := zt ca) (nw := zw_nest) (C := RX8) (As := [.int i129, .int 5]) (rest := []) ⟨hx, hb, hml, hown, hts⟩ (m_X8_ofWell l dC dI ca sf ad hI ad2 hI2 hq M112 zMi i129 5 hOk (by rw [hV.1.c12, ei129]; exact q_ixk hkk128 (by omega)) ⟨by decide, by decide⟩) (cwV 2 hts gL_law_X8_ofWell rfl rfl rfl (by decide +kernel) ⟨Nat.le_of_ble_eq_true rfl, Nat.le_of_ble_eq_true rfl⟩) (z_recv (ci := 8) (i := 0) hK hT rfl (by decide) rfl) ⟨hT, hH, hG⟩ hK hN zw_nest_ok rfl hl.1 rfl (Nat.le_of_ble_eq_true rfl) dL_law_493 ⟨(by show (103 + k5) ≤ 877211; omega), (by show (522 + 6 * k5) ≤ 6470066; omega)⟩ hS hAA (fun H locs hB1 oq1 hz1 hS => ?_)
                    obtain ⟨hT, hH, hG⟩ := hB1
                    refine lv_topi (fun x144 ex144 => ?_)
                    refine lv_iload hx hb dL_law_496 (lv_at hl 0 rfl) ?_
                    refine lv_icmp_gt (tgt := 532) hx hb dL_law_498 (by decide) (fun c145 => absurd c145 (by rw [ex144, p135, (q_ow (M := M112) (N := zMi) ei129 (Nat.lt_of_lt_of_le hkk128 hnw6)).2.2.2.2.2.1]; exact ((hV.2.2.2.2.2.2 _ hkk128).1 hj).1)) (fun c145 => ?_)
                    refine lv_aload_n hx hb dL_law_501 rfl (lv_at hl 2 rfl) ?_
                    refine lv_iload hx hb dL_law_502 (lv_at hl 16 rfl) ?_
                    refine lv_bipush (v := 6) hx hb dL_law_504 (by decide) ?_
                    refine z_cVi (D := (dC, dI)) (cl := vwCl) (tys := zt ca) (nw := zw_nest) (C := RX8) (As := [.int i129, .int 6]) (rest := []) ⟨hx, hb, hml, hown, hts⟩ (m_X8_ofWell l dC dI ca sf ad hI ad2 hI2 hq M112 zMi i129 6 hOk (by rw [hV.1.c12, ei129]; exact q_ixk hkk128 (by omega)) ⟨by decide, by decide⟩) (cwV 2 hts gL_law_X8_ofWell rfl rfl rfl (by decide +kernel) ⟨Nat.le_of_ble_eq_true rfl, Nat.le_of_ble_eq_true rfl⟩) (z_recv (ci := 8) (i := 0) hK hT rfl (by decide) rfl) ⟨hT, hH, hG⟩ hK hN zw_nest_ok rfl hl.1 rfl (Nat.le_of_ble_eq_true rfl) dL_law_506 ⟨(by show (103 + k5) ≤ 877211; omega), (by show (522 + 6 * k5) ≤ 6470066; omega)⟩ hS hAA (fun H locs hB1 oq1 hz1 hS => ?_)
                    obtain ⟨hT, hH, hG⟩ := hB1
                    refine lv_topi (fun x146 ex146 => ?_)
                    refine lv_if_ne (tgt := 532) hx hb dL_law_509 (by decide) (fun c147 => absurd c147 (not_not_intro (by rw [ex146, (q_ow (M := M112) (N := zMi) ei129 (Nat.lt_of_lt_of_le hkk128 hnw6)).2.2.2.2.2.2.1]; exact ((hV.2.2.2.2.2.2 _ hkk128).1 hj).2))) (fun c147 => ?_)
                    refine lv_aload_n hx hb dL_law_512 rfl (lv_at hl 2 rfl) ?_
                    refine lv_iload hx hb dL_law_513 (lv_at hl 16 rfl) ?_
                    refine lv_iconst (v := 2) hx hb dL_law_515 (by decide) ?_
                    refine z_cVi (D := (dC, dI)) (cl := vwCl) (tys := zt ca) (nw := zw_nest) (C := RX8) (As := [.int i129, .int 2]) (rest := []) ⟨hx, hb, hml, hown, hts⟩ (m_X8_ofWell l dC dI ca sf ad hI ad2 hI2 hq M112 zMi i129 2 hOk (by rw [hV.1.c12, ei129]; exact q_ixk hkk128 (by omega)) ⟨by decide, by decide⟩) (cwV 2 hts gL_law_X8_ofWell rfl rfl rfl (by decide +kernel) ⟨Nat.le_of_ble_eq_true rfl, Nat.le_of_ble_eq_true rfl⟩) (z_recv (ci := 8) (i := 0) hK hT rfl (by decide) rfl) ⟨hT, hH, hG⟩ hK hN zw_nest_ok rfl hl.1 rfl (Nat.le_of_ble_eq_true rfl) dL_law_516 ⟨(by show (103 + k5) ≤ 877211; omega), (by show (522 + 6 * k5) ≤ 6470066; omega)⟩ hS hAA (fun H locs hB1 oq1 hz1 hS => ?_)
                    obtain ⟨hT, hH, hG⟩ := hB1
                    refine lv_topi (fun x148 ex148 => ?_)
                    refine lv_if_ne (tgt := 534) hx hb dL_law_519 (by decide) (fun c149 => ?_) (fun c149 => ?_)
                    · obtain ⟨x150, ex150⟩ : ∃ z : Int32, z = i129 + 1 := ⟨_, rfl⟩
                      refine lv_iinc (v := x150) (lv' := [(15, .int x150), (16, .int v133), (0, .ref b), (1, .ref sf), (2, .int x1), (3, .int x2), (4, .int x3), (5, .int x4), (6, .int a8), (7, .int x113), (8, .int a10), (9, .int i6), (10, .int x27), (11, .int v28), (12, .int x109), (13, .int x110), (14, .int x111)]) hx hb dL_law_534 hl (k := 16) rfl (by rw [ex150]; rfl) (by decide) rfl (fun ls hl => ?_)
                      refine lv_goto (tgt := 434) hx hb dL_law_537 (by decide) ?_
                      exact ihk128 (k128 + 1) hkk128 (by omega) (trivial) x150 (z_nx ei129 ex150) ls (lv_sub hl [2, 3, 4, 5, 6, 7, 8, 9, 10, 11, 12, 13, 14, 15, 16, 0] rfl) _ _ hT hH hG hS
                    · have hz2 : M112 (60 + k128) 2 = 0 := by rw [← (q_ow (M := M112) (N := zMi) ei129 (Nat.lt_of_lt_of_le hkk128 hnw6)).2.2.1, ← ex148]; exact c149
                      refine lv_aload_n hx hb dL_law_522 rfl (lv_at hl 2 rfl) ?_
                      refine lv_iload hx hb dL_law_523 (lv_at hl 16 rfl) ?_
                      refine lv_iconst (v := 5) hx hb dL_law_525 (by decide) ?_
                      refine z_cVi (D := (dC, dI)) (cl := vwCl) (tys := zt ca) (nw := zw_nest) (C := RX8) (As := [.int i129, .int 5]) (rest := []) ⟨hx, hb, hml, hown, hts⟩ (m_X8_ofWell l dC dI ca sf ad hI ad2 hI2 hq M112 zMi i129 5 hOk (by rw [hV.1.c12, ei129]; exact q_ixk hkk128 (by omega)) ⟨by decide, by decide⟩) (cwV 2 hts gL_law_X8_ofWell rfl rfl rfl (by decide +kernel) ⟨Nat.le_of_ble_eq_true rfl, Nat.le_of_ble_eq_true rfl⟩) (z_recv (ci := 8) (i := 0) hK hT rfl (by decide) rfl) ⟨hT, hH, hG⟩ hK hN zw_nest_ok rfl hl.1 rfl (Nat.le_of_ble_eq_true rfl) dL_law_526 ⟨(by show (103 + k5) ≤ 877211; omega), (by show (522 + 6 * k5) ≤ 6470066; omega)⟩ hS hAA (fun H locs hB1 oq1 hz1 hS => ?_)
                      obtain ⟨hT, hH, hG⟩ := hB1
                      refine lv_topi (fun x151 ex151 => ?_)
                      refine lv_if_eq (tgt := 534) hx hb dL_law_529 (by decide) (fun c152 => ?_) (fun c152 => absurd c152 (not_not_intro (by rw [ex151, (q_ow (M := M112) (N := zMi) ei129 (Nat.lt_of_lt_of_le hkk128 hnw6)).2.2.2.2.2.1]; exact (hV.2.2.2.2.2.2 _ hkk128).2 hz2)))
                      obtain ⟨x153, ex153⟩ : ∃ z : Int32, z = i129 + 1 := ⟨_, rfl⟩
                      refine lv_iinc (v := x153) (lv' := [(15, .int x153), (16, .int v133), (0, .ref b), (1, .ref sf), (2, .int x1), (3, .int x2), (4, .int x3), (5, .int x4), (6, .int a8), (7, .int x113), (8, .int a10), (9, .int i6), (10, .int x27), (11, .int v28), (12, .int x109), (13, .int x110), (14, .int x111)]) hx hb dL_law_534 hl (k := 16) rfl (by rw [ex153]; rfl) (by decide) rfl (fun ls hl => ?_)
                      refine lv_goto (tgt := 434) hx hb dL_law_537 (by decide) ?_
                      exact ihk128 (k128 + 1) hkk128 (by omega) (trivial) x153 (z_nx ei129 ex153) ls (lv_sub hl [2, 3, 4, 5, 6, 7, 8, 9, 10, 11, 12, 13, 14, 15, 16, 0] rfl) _ _ hT hH hG hS
                refine lv_if_ne (tgt := 457) hx hb dL_law_442 (by decide) (fun c154 => ?_) (fun c154 => ?_)
                · refine lv_iload hx hb dL_law_457 (lv_at hl 12 rfl) ?_
                  refine lv_iconst (v := 1) hx hb dL_law_459 (by decide) ?_
                  refine lv_icmp_ne (tgt := 475) hx hb dL_law_460 (by decide) (fun c155 => ?_) (fun c155 => ?_)
                  · refine lv_iconst (v := 0) hx hb dL_law_475 (by decide) ?_
                    exact J134 0 (by unfold zMs; rw [← elt, if_neg c154, if_neg c155]) ls (lv_sub hl [0, 1, 2, 3, 4, 5, 6, 7, 8, 9, 10, 11, 12, 13, 14, 15] rfl) H locs hT hH hG hS
                  · refine lv_iconst (v := 2) hx hb dL_law_463 (by decide) ?_
                    refine lv_aload_n hx hb dL_law_464 rfl (lv_at hl 1 rfl) ?_
                    refine lv_iload hx hb dL_law_465 (lv_at hl 15 rfl) ?_
                    refine lv_iconst (v := 2) hx hb dL_law_467 (by decide) ?_
                    refine z_cVi (D := (dC, dI)) (cl := vwCl) (tys := zt ca) (nw := zw_nest) (C := RX8) (As := [.int i129, .int 2]) (rest := [.int 2]) ⟨hx, hb, hml, hown, hts⟩ (m_X8_ofWell l dC dI ca sf ad hI ad2 hI2 hq M112 zMi i129 2 hOk (by rw [hV.1.c12, ei129]; exact q_ixk hkk128 (by omega)) ⟨by decide, by decide⟩) (cwV 2 hts gL_law_X8_ofWell rfl rfl rfl (by decide +kernel) ⟨Nat.le_of_ble_eq_true rfl, Nat.le_of_ble_eq_true rfl⟩) (z_recv (ci := 8) (i := 0) hK hT rfl (by decide) rfl) ⟨hT, hH, hG⟩ hK hN zw_nest_ok rfl hl.1 rfl (Nat.le_of_ble_eq_true rfl) dL_law_468 ⟨(by show (103 + k5) ≤ 877211; omega), (by show (522 + 6 * k5) ≤ 6470066; omega)⟩ hS hAA (fun H locs hB1 oq1 hz1 hS => ?_)
                    obtain ⟨hT, hH, hG⟩ := hB1
                    refine lv_topi (fun x156 ex156 => ?_)
                    refine lv_imul hx hb dL_law_471 ?_
                    refine lv_topi (fun x157 ex157 => ?_)
                    refine lv_goto (tgt := 476) hx hb dL_law_472 (by decide) ?_
                    exact J134 x157 (by unfold zMs; rw [← elt, if_neg c154, if_pos c155, ex157, ex156, (q_ow (M := M112) (N := zMi) ei129 (Nat.lt_of_lt_of_le hkk128 hnw6)).2.2.1]) ls (lv_sub hl [0, 1, 2, 3, 4, 5, 6, 7, 8, 9, 10, 11, 12, 13, 14, 15] rfl) H locs hT hH hG hS
                · refine lv_iconst (v := 4) hx hb dL_law_445 (by decide) ?_
                  refine lv_aload_n hx hb dL_law_446 rfl (lv_at hl 1 rfl) ?_
                  refine lv_iload hx hb dL_law_447 (lv_at hl 15 rfl) ?_
                  refine lv_iconst (v := 2) hx hb dL_law_449 (by decide) ?_
                  refine z_cVi (D := (dC, dI)) (cl := vwCl) (tys := zt ca) (nw := zw_nest) (C := RX8) (As := [.int i129, .int 2]) (rest := [.int 4]) ⟨hx, hb, hml, hown, hts⟩ (m_X8_ofWell l dC dI ca sf ad hI ad2 hI2 hq M112 zMi i129 2 hOk (by rw [hV.1.c12, ei129]; exact q_ixk hkk128 (by omega)) ⟨by decide, by decide⟩) (cwV 2 hts gL_law_X8_ofWell rfl rfl rfl (by decide +kernel) ⟨Nat.le_of_ble_eq_true rfl, Nat.le_of_ble_eq_true rfl⟩) (z_recv (ci := 8) (i := 0) hK hT rfl (by decide) rfl) ⟨hT, hH, hG⟩ hK hN zw_nest_ok rfl hl.1 rfl (Nat.le_of_ble_eq_true rfl) dL_law_450 ⟨(by show (103 + k5) ≤ 877211; omega), (by show (522 + 6 * k5) ≤ 6470066; omega)⟩ hS hAA (fun H locs hB1 oq1 hz1 hS => ?_)
                  obtain ⟨hT, hH, hG⟩ := hB1
                  refine lv_topi (fun x158 ex158 => ?_)
                  refine lv_imul hx hb dL_law_453 ?_
                  refine lv_topi (fun x159 ex159 => ?_)
                  refine lv_goto (tgt := 476) hx hb dL_law_454 (by decide) ?_
                  exact J134 x159 (by unfold zMs; rw [← elt, if_pos c154, ex159, ex158, (q_ow (M := M112) (N := zMi) ei129 (Nat.lt_of_lt_of_le hkk128 hnw6)).2.2.1]) ls (lv_sub hl [0, 1, 2, 3, 4, 5, 6, 7, 8, 9, 10, 11, 12, 13, 14, 15] rfl) H locs hT hH hG hS
          exact L131 (nw + 1) 0 (Nat.zero_le _) (by omega) (trivial) _ rfl ls (lv_sub hl [7, 8, 9, 10, 11, 12, 13, 1, 14, 15, 6, 5, 4, 3, 2, 0] rfl) H locs hT hH hG hS
        refine lv_if_ne (tgt := 81) hx hb dL_law_74 (by decide) (fun c160 => ?_) (fun c160 => ?_)
        · have hnw0 : 0 < nw := q_pos ea1 c160
          refine lv_iload hx hb dL_law_81 (lv_at hl 0 rfl) ?_
          refine lv_iconst (v := 4) hx hb dL_law_83 (by decide) ?_
          refine lv_ishr hx hb dL_law_84 ?_
          refine lv_topi (fun x161 ex161 => ?_)
          refine lv_iload_n hx hb dL_law_85 rfl (lv_at hl 4 rfl) ?_
          refine z_cSi (D := (dC, dI)) (cl := vwCl) (tys := zt ca) (nw := zw_nest) (As := [.int x161, .int x2]) (rest := []) ⟨hx, hb, hml, hown, hts⟩ (m_L_below l dC dI ca (fun H => zT dC dI ca sf (ad 0) (ad2 0) H ∧ zW dC dI ca ad M11 H ∧ zW dC dI ca ad2 zMi H) x161 x2 (by rw [ea1]; exact q_nI_nz (by omega) (by omega))) (cwS 2 hts gL_law_L_below rfl rfl rfl (by decide +kernel) ⟨Nat.le_of_ble_eq_true rfl, Nat.le_of_ble_eq_true rfl⟩) ⟨hT, hH, hG⟩ hK hN zw_nest_ok rfl hl.1 rfl (Nat.le_of_ble_eq_true rfl) dL_law_86 ⟨(by show (103 + k5) ≤ 877211; omega), (by show (522 + 6 * k5) ≤ 6470066; omega)⟩ hS (fun _ h => h.elim) (fun H locs hB1 oq1 hz1 hS => ?_)
          obtain ⟨hT, hH, hG⟩ := hB1
          refine lv_topi (fun x163 ex163 => ?_)
          obtain ⟨k164, hk164, ek164⟩ : ∃ k, k < nw ∧ x163 = nI k := by rw [ex163]; exact q_belowI _ (by omega) (by omega) ea1
          exact J29 x163 (Or.inr ⟨_, hk164, ek164⟩) ls (lv_sub hl [0, 1, 2, 3, 4, 5, 6, 7, 8, 9, 10] rfl) H locs hT hH hG hS
        · refine lv_iconst (v := (-1)) hx hb dL_law_77 (by decide) ?_
          refine lv_goto (tgt := 89) hx hb dL_law_78 (by decide) ?_
          exact J29 ((-1)) (Or.inl rfl) ls (lv_sub hl [0, 1, 2, 3, 4, 5, 6, 7, 8, 9, 10] rfl) H locs hT hH hG hS
  exact L12 (70 + 1) 0 (Nat.zero_le _) (by omega) M 20 0 0 (hLi0) _ rfl ls (lv_sub hl [9, 8, 7, 6, 5, 4, 3, 2, 1, 0] rfl) H locs hT hH hG hS
