/-! ===== calls that are refused: what a throw wants of the machine, and the call of a method that throws ===== -/
abbrev zIAE : String := "java/lang/IllegalArgumentException"
abbrev zIOB : String := "java/lang/IndexOutOfBoundsException"
abbrev zISn : List String := ["java/lang/RuntimeException", "java/lang/Exception"]
abbrev zFa : Nat → Prop := fun _ => False
def zExW9 : List Cond := [.declares { cls := "java/lang/RuntimeException", name := "<init>", desc := "(Ljava/lang/String;)V" }, .declares { cls := "java/lang/Exception", name := "<init>", desc := "(Ljava/lang/String;)V" }, .declares { cls := "java/lang/Throwable", name := "<init>", desc := "(Ljava/lang/String;)V" }, .castable zIAE zIAE, .castable zIOB zIOB]
theorem zExW9_tab : ∀ w ∈ zExW9, w.onTables = true := by decide +kernel
def zEx9 (A : Nat → Prop) (U : State) : Prop := (∃ sa, vk_R RX8 302 "a number is out of its range" sa U) ∧ (∃ sa, vk_R RX8 306 "there is no such number" sa U) ∧ vx_Zq Bundle.tN "UNASSIGNED_STACK" Bundle.steD A U U.heap ∧ vx_Zq Bundle.tN "SUPPRESSED_SENTINEL" Bundle.listD A U U.heap ∧ (∀ w ∈ zExW9, va_Nw w U) ∧ va_Nc zIAE zIOB U
theorem zEx9.same {A : Nat → Prop} {U V : State} (hv : U.vm = V.vm) (hh : V.heap = U.heap) (h : zEx9 A U) : zEx9 A V := by
  obtain ⟨⟨sa, h1⟩, ⟨sb, h2⟩, h3, h4, h5, h6⟩ := h
  refine ⟨⟨sa, vk_R.same hv.symm h1⟩, ⟨sb, vk_R.same hv.symm h2⟩, ?_, ?_, fun w hw => va_Nw.same (zExW9_tab w hw) hv (h5 w hw), va_Nc.moved (by rw [hv]; exact Vm.Alike.refl _) h6⟩
  · rw [hh]; exact vx_Zq.moved (by rw [hv]; exact Vm.Alike.refl _) h3
  · rw [hh]; exact vx_Zq.moved (by rw [hv]; exact Vm.Alike.refl _) h4
theorem zEx9.warm {A B : Nat → Prop} {s U : State} (hAB : ∀ q, B q → A q) (hk : ∀ a : Nat, a < s.heap.size → ¬ A a → U.heap[a]? = s.heap[a]?) (hW : s.WarmedH U.vm) (h : zEx9 A s) : zEx9 B U := by
  obtain ⟨⟨sa, h1⟩, ⟨sb, h2⟩, h3, h4, h5, h6⟩ := h
  refine ⟨⟨sa, vk_R.warm hW h1⟩, ⟨sb, vk_R.warm hW h2⟩, (vx_Zq.moved hW.alike (h3.kept hk)).narrow hAB, (vx_Zq.moved hW.alike (h4.kept hk)).narrow hAB, fun w hw => ?_, h6.moved hW.alike⟩
  have h := h5 w hw
  simp only [zExW9, List.mem_cons, List.not_mem_nil, or_false] at hw
  rcases hw with rfl | rfl | rfl | rfl | rfl
  · exact va_Nw.warmD hW h
  · exact va_Nw.warmD hW h
  · exact va_Nw.warmD hW h
  · exact va_Nw.warmC hW h
  · exact va_Nw.warmC hW h
abbrev z_P9 (D : va_G) (cl : List vw_C) (tys : List (ClassId × FieldType)) (nw : List Cond) (av : List Value) (A : Nat → Prop) (B : Heap → Prop) : Array Value → State → Prop := va_Pc av (fun U => B U.heap ∧ va_K D cl tys U ∧ z_N nw U ∧ zEx9 A U)
theorem z_blind9 {D : va_G} {cl : List vw_C} {tys : List (ClassId × FieldType)} {nw : List Cond} (hn : nw.all z_nest = true) {av : List Value} {A : Nat → Prop} {B : Heap → Prop} : FrameBlind (z_P9 D cl tys nw av A B) := fun a U g mk q => by
  obtain ⟨q0, qB, qK, qN, qE⟩ := q
  exact ⟨q0, qB, va_K.moved (u := U) (U := U.calling g mk a) (Vm.Alike.refl U.vm) qK, z_N.same (s := U) (U := U.calling g mk a) hn rfl qN, zEx9.same (U := U) (V := U.calling g mk a) rfl rfl qE⟩
theorem zEx9_b1 : ∀ w ∈ (vx_atS RX8 78 zIAE zISn).filter (fun w => !goodWord w), w ∈ zExW9 := by decide +kernel
theorem zEx9_b2 : ∀ w ∈ (vx_atS RX8 308 zIOB zISn).filter (fun w => !goodWord w), w ∈ zExW9 := by decide +kernel
theorem zEx9_use {args : Array Value} {s : State} (h : ∀ w ∈ zExW9, va_Nw w s) : ∀ w ∈ zExW9, w.before args s = true := fun w hw => va_Nw.use (zExW9_tab w hw) (h w hw)
abbrev z_V9 : Array Value → State → Outcome → State → Prop := va_Qv (fun (_ : Unit) => False) (fun _ _ => True) zFa
abbrev z_I9 : Array Value → State → Outcome → State → Prop := va_Qi (fun (_ : Int32) (_ : Unit) => False) (fun _ _ => True) zFa
abbrev z_X9 (E0 : String) : String → State → State → Prop := vx_X (fun (_ : Unit) => True) (fun E _ _ => E = E0) zFa
theorem z_ni0 (a : Int32) : ¬ z_ni a 0 := fun h => by
  obtain ⟨h1, h2⟩ := h
  rw [Int32.lt_iff_toInt_lt] at h1
  rw [Int32.le_iff_toInt_le] at h2
  omega
section ZX9
variable {p : Program} {l : Launch} {e : Env} {R : Room} {s : State} {m : MethodId} {args : Array Value} {below : List Frame} {meth : Method} {c : Code} {H : Heap} {locs : List Loc} {cells slots : Nat} {Q : State → Prop}
variable {cc : ByteArray} {pc nL : Nat} {ls : Array Slot} {rest st0 : List Value} {D : va_G} {cl : List vw_C} {A0 A1 : Nat → Prop} {tys : List (ClassId × FieldType)} {nw : List Cond}
variable {y : MethodName} {bytes : ByteArray} {maxL n index mc ms : Nat} {ret : Option FieldType} {ws Ts : List Cond} {rm : Room} {own C : String} {b : Addr} {As : List Value} {B B' : Heap → Prop}
/-- a static call that throws -/
theorem z_cS9 {E0 : String} (S : CallFix p m c cc nL s args Ts own) (hM : vx_Met l y ws rm (z_P9 D cl tys nw As zFa B) z_V9 (z_X9 E0) mc ms zFa) (cw : CallB R s args own index y bytes maxL ret ws rm mc ms n ∧ (Cond.static y).before args s = true)
    (hB : B H) (hK : va_K D cl tys s) (hN : z_N nw s) (hE : zEx9 A0 s) (hnw : nw.all z_nest = true) (hn : As.length = n) (hsize : ls.size = nL) (hst : st0 = As.reverse ++ rest) (hW : (rest.map fun v => v.category).sum ≤ 8) (hdg : decode cc pc = .ok (.invokestatic index, 3)) (hf : cells + mc ≤ R.cells ∧ slots + ms ≤ R.slots) (hS : va_S A0 s.heap H locs)
    (kx : ∀ (ce : Cell) (q9 : Addr) (H1 : Heap) (locs1 : List Loc), va_S A0 s.heap H1 locs1 → H1[q9]? = some ce → ce.vm = .none → s.vm.findClass E0 = some ce.cls → vx_W p l e R s m args below meth c H1 locs1 (cells + mc) (slots + ms) Q (F0 m pc ls rest) q9) : W p l e R s m args below meth c H locs cells slots Q (F0 m pc ls st0) := by
  refine vx_callv (vx_runS S hM cw ⟨z_blind9 hnw, fun U hU hW => ⟨rfl, by rw [hU]; exact hB, va_K.moved hW.alike hK, hN.warm hnw hW, hE.warm (fun _ h => h.elim) (by rw [hU]; exact hS.2.1) hW⟩⟩ rfl hn hsize hst (lv_room hW) hdg hf) hS (fun q _ h => h.elim) (fun q h => h.elim) (fun q _ h => h.elim) (fun E ce q9 u t H1 locs1 ht hvm _ hb hz1 hk1 hS1 hce hcv hcl => ?_) (fun u t H1 locs1 _ _ h => h.elim)
  obtain rfl := hb
  exact kx ce q9 H1 locs1 hS1 hce hcv hcl
/-- a call of a method that throws -/
theorem z_cV9 {E0 : String} (S : CallFix p m c cc nL s args Ts own) (hM : vx_Met l y ws rm (z_P9 D cl tys nw (.ref b :: As) zFa B) z_I9 (z_X9 E0) mc ms zFa) (cw : CallW R s args own C index y bytes maxL ret ws rm mc ms n)
    (hrec : ∃ cell : Cell, H[b]? = some cell ∧ cell.vm.isStatics = false ∧ s.vm.findClass C = some cell.cls) (hB : B H) (hK : va_K D cl tys s) (hN : z_N nw s) (hE : zEx9 A0 s) (hnw : nw.all z_nest = true) (hn : As.length = n) (hsize : ls.size = nL) (hst : st0 = As.reverse ++ .ref b :: rest) (hW : (rest.map fun v => v.category).sum ≤ 8) (hdg : decode cc pc = .ok (.invokevirtual index, 3)) (hf : cells + mc ≤ R.cells ∧ slots + ms ≤ R.slots) (hS : va_S A0 s.heap H locs)
    (kx : ∀ (ce : Cell) (q9 : Addr) (H1 : Heap) (locs1 : List Loc), va_S A0 s.heap H1 locs1 → H1[q9]? = some ce → ce.vm = .none → s.vm.findClass E0 = some ce.cls → vx_W p l e R s m args below meth c H1 locs1 (cells + mc) (slots + ms) Q (F0 m pc ls rest) q9) : W p l e R s m args below meth c H locs cells slots Q (F0 m pc ls st0) := by
  refine vx_calli (vx_runV S hM cw ⟨z_blind9 hnw, hrec, fun U hU hW => ⟨rfl, by rw [hU]; exact hB, va_K.moved hW.alike hK, hN.warm hnw hW, hE.warm (fun _ h => h.elim) (by rw [hU]; exact hS.2.1) hW⟩⟩ rfl hn hsize hst (lv_room hW) hdg hf) hS (fun q _ h => h.elim) (fun q h => h.elim) (fun q _ h => h.elim) (fun E ce q9 u t H1 locs1 ht hvm _ hb hz1 hk1 hS1 hce hcv hcl => ?_) (fun r u t H1 locs1 _ _ h => h.elim)
  obtain rfl := hb
  exact kx ce q9 H1 locs1 hS1 hce hcv hcl
end ZX9
theorem q_nle9 {x y : Int32} (h : x < y) (k : y ≤ x) : False := by
  rw [Int32.lt_iff_toInt_lt] at h
  rw [Int32.le_iff_toInt_le] at k
  omega
set_option maxHeartbeats 4000000 in
set_option maxRecDepth 100000 in
theorem m_X8_needRangex (l : Launch) (hl9 : l.stackTraces = false) (dC : Nat → ClassId) (dI : Nat → Nat → Nat) (ca : Nat → ClassId) (B : Heap → Prop) (a0 a1 a2 : Int32) (h_n : ¬ z_rg a0 a1 a2) : vx_Met l yX8_needRange wsX8_needRange ({ frames := 6, cells := 1, slots := 6, locals := 82 }) (z_P9 (dC, dI) vwCl (zt ca) zw_nest [.int a0, .int a1, .int a2] zFa (fun H => B H)) z_V9 (z_X9 zIAE) 1 6 zFa := by
  refine vx_ofW (cc := cX8_needRange) (maxL := 3) (ret := none) (by decide) rfl ?_
  intro p e s m args below meth c s₁ B9 hml htab hv
  obtain ⟨rfl, hB, hK, hN, hEx⟩ := hv
  have hx := B9.exec
  have hb := B9.bytes
  have hr := B9.returns
  have hts := atoms_spec (ws := wsX8_needRange) B9.pre
  have hown : s.vm.findClass RX8 = some m.cls := findClass_of_methodNamed B9.named
  have hlocks := B9.notSynchronized
  have hS : va_S zFa s.heap s.heap [] := va_S.rf
  have hl := lv_entry ([.int a0, .int a1, .int a2]) (n := 3) (Nat.le_of_ble_eq_true rfl)
  rw [lg_entry_eq]
  generalize (lg_sl ([.int a0, .int a1, .int a2]) ++ List.replicate (3 - (lg_sl ([.int a0, .int a1, .int a2])).length) Slot.unset).toArray = ls at hl ⊢
  have hl : lv_has ls 3 [(0, .int a0), (1, .int a1), (2, .int a2)] := hl
  obtain ⟨⟨sa, hstr⟩, _, hZU, hZN, hcst, _⟩ := hEx
  have T0 : W p l e (headSpec wsX8_needRange ({ frames := 6, cells := 1, slots := 6, locals := 82 })).room s m ([.int a0, .int a1, .int a2] : List Value).toArray below meth c s.heap [] 0 0 (vx_MQ below z_V9 (z_X9 zIAE) ([.int a0, .int a1, .int a2] : List Value).toArray s 1 6 zFa) (F0 m 10 ls []) :=
    vx_throwSW (own := RX8) (cls := zIAE) (text := "a number is out of its range") (names := zISn) (ik := 74) (is := 302) (ic := 78) (sa := sa) (A := zFa) hx hb hl9 hown (by decide +kernel) (by decide +kernel) (hts (.classLink RX8 74 zIAE) (by decide +kernel)) (hts (.initialized zIAE) (by decide +kernel)) hstr (vx_hat (fun w hw => hts w (List.mem_cons_of_mem _ (List.mem_append_right _ hw))) zEx9_b1 (zEx9_use hcst)) (by decide +kernel) hZU hZN hS (hl.1.trans hml.symm) dX8_needRange_10 dX8_needRange_13 dX8_needRange_14 dX8_needRange_17 dX8_needRange_20 (fun x hx9 => (htab x hx9).elim) (by decide) (by decide) (by decide) (by decide) hlocks (fun t hv hz9 hk9 => ⟨(), trivial, rfl, Nat.le_trans hS.1 hz9, fun q h1 h2 => (hk9 q (Nat.lt_of_lt_of_le h1 hS.1)).trans (hS.2.1 q h1 h2)⟩) hS.2.2 (Nat.le_refl _) (Nat.le_refl _)
  refine lv_iload_n hx hb dX8_needRange_0 rfl (lv_at hl 0 rfl) ?_
  refine lv_iload_n hx hb dX8_needRange_1 rfl (lv_at hl 1 rfl) ?_
  refine lv_icmp_lt (tgt := 10) hx hb dX8_needRange_2 (by decide) (fun _ => T0) (fun c1 => ?_)
  refine lv_iload_n hx hb dX8_needRange_5 rfl (lv_at hl 0 rfl) ?_
  refine lv_iload_n hx hb dX8_needRange_6 rfl (lv_at hl 2 rfl) ?_
  exact lv_icmp_le (tgt := 21) hx hb dX8_needRange_7 (by decide) (fun c2 => absurd ⟨c1, fun c3 => q_nle9 c3 c2⟩ h_n) (fun _ => T0)
set_option maxHeartbeats 4000000 in
set_option maxRecDepth 100000 in
theorem m_X8_needIndexx (l : Launch) (hl9 : l.stackTraces = false) (dC : Nat → ClassId) (dI : Nat → Nat → Nat) (ca : Nat → ClassId) (B : Heap → Prop) (a0 a1 : Int32) (h_n : ¬ z_ni a0 a1) : vx_Met l yX8_needIndex wsX8_needIndex ({ frames := 6, cells := 1, slots := 6, locals := 82 }) (z_P9 (dC, dI) vwCl (zt ca) zw_nest [.int a0, .int a1] zFa (fun H => B H)) z_V9 (z_X9 zIOB) 1 6 zFa := by
  refine vx_ofW (cc := cX8_needIndex) (maxL := 2) (ret := none) (by decide) rfl ?_
  intro p e s m args below meth c s₁ B9 hml htab hv
  obtain ⟨rfl, hB, hK, hN, hEx⟩ := hv
  have hx := B9.exec
  have hb := B9.bytes
  have hr := B9.returns
  have hts := atoms_spec (ws := wsX8_needIndex) B9.pre
  have hown : s.vm.findClass RX8 = some m.cls := findClass_of_methodNamed B9.named
  have hlocks := B9.notSynchronized
  have hS : va_S zFa s.heap s.heap [] := va_S.rf
  have hl := lv_entry ([.int a0, .int a1]) (n := 2) (Nat.le_of_ble_eq_true rfl)
  rw [lg_entry_eq]
  generalize (lg_sl ([.int a0, .int a1]) ++ List.replicate (2 - (lg_sl ([.int a0, .int a1])).length) Slot.unset).toArray = ls at hl ⊢
  have hl : lv_has ls 2 [(0, .int a0), (1, .int a1)] := hl
  obtain ⟨_, ⟨sa, hstr⟩, hZU, hZN, hcst, _⟩ := hEx
  have T0 : W p l e (headSpec wsX8_needIndex ({ frames := 6, cells := 1, slots := 6, locals := 82 })).room s m ([.int a0, .int a1] : List Value).toArray below meth c s.heap [] 0 0 (vx_MQ below z_V9 (z_X9 zIOB) ([.int a0, .int a1] : List Value).toArray s 1 6 zFa) (F0 m 9 ls []) :=
    vx_throwSW (own := RX8) (cls := zIOB) (text := "there is no such number") (names := zISn) (ik := 304) (is := 306) (ic := 308) (sa := sa) (A := zFa) hx hb hl9 hown (by decide +kernel) (by decide +kernel) (hts (.classLink RX8 304 zIOB) (by decide +kernel)) (hts (.initialized zIOB) (by decide +kernel)) hstr (vx_hat (fun w hw => hts w (List.mem_cons_of_mem _ (List.mem_append_right _ hw))) zEx9_b2 (zEx9_use hcst)) (by decide +kernel) hZU hZN hS (hl.1.trans hml.symm) dX8_needIndex_9 dX8_needIndex_12 dX8_needIndex_13 dX8_needIndex_16 dX8_needIndex_19 (fun x hx9 => (htab x hx9).elim) (by decide) (by decide) (by decide) (by decide) hlocks (fun t hv hz9 hk9 => ⟨(), trivial, rfl, Nat.le_trans hS.1 hz9, fun q h1 h2 => (hk9 q (Nat.lt_of_lt_of_le h1 hS.1)).trans (hS.2.1 q h1 h2)⟩) hS.2.2 (Nat.le_refl _) (Nat.le_refl _)
  refine lv_iload_n hx hb dX8_needIndex_0 rfl (lv_at hl 0 rfl) ?_
  refine lv_if_lt (tgt := 9) hx hb dX8_needIndex_1 (by decide) (fun _ => T0) (fun c1 => ?_)
  refine lv_iload_n hx hb dX8_needIndex_4 rfl (lv_at hl 0 rfl) ?_
  refine lv_iload_n hx hb dX8_needIndex_5 rfl (lv_at hl 1 rfl) ?_
  exact lv_icmp_lt (tgt := 20) hx hb dX8_needIndex_6 (by decide) (fun c2 => absurd ⟨c1, fun c3 => q_nle9 c2 c3⟩ h_n) (fun _ => T0)
set_option maxHeartbeats 4000000 in
set_option maxRecDepth 100000 in
theorem m_X8_blockx (l : Launch) (hl9 : l.stackTraces = false) (dC : Nat → ClassId) (dI : Nat → Nat → Nat) (ca : Nat → ClassId) (sf : Nat) (ad : Nat → Nat) (ad2 : Nat → Nat) (M : zM) (N : zM) (a0 a1 a2 a3 a4 : Int32) (h_n : ¬ (z_rg a0 10 99 ∧ z_rg a1 0 1 ∧ z_rg a2 0 2000 ∧ z_rg a3 0 400 ∧ z_rg a4 0 9999)) : vx_Met l yX8_block wsX8_block ({ frames := 7, cells := 1, slots := 6, locals := 104 }) (z_P9 (dC, dI) vwCl (zt ca) zw_nest [.ref sf, .int a0, .int a1, .int a2, .int a3, .int a4] zFa (fun H => zT dC dI ca sf (ad 0) (ad2 0) H ∧ zW dC dI ca ad M H ∧ zW dC dI ca ad2 N H)) z_I9 (z_X9 zIAE) 1 6 zFa := by
  refine vx_ofW (cc := cX8_block) (maxL := 8) (ret := (some .int)) (by decide) rfl ?_
  intro p e s m args below meth c s₁ B9 hml htab hv
  obtain ⟨rfl, ⟨hT, hH, hG⟩, hK, hN, hEx⟩ := hv
  have hx := B9.exec
  have hb := B9.bytes
  have hr := B9.returns
  have hts := atoms_spec (ws := wsX8_block) B9.pre
  have hown : s.vm.findClass RX8 = some m.cls := findClass_of_methodNamed B9.named
  have hlocks := B9.notSynchronized
  have hS : va_S zFa s.heap s.heap [] := va_S.rf
  have hT : zT dC dI ca sf (ad 0) (ad2 0) s.heap := hT
  have hH : zW dC dI ca ad M s.heap := hH
  have hG : zW dC dI ca ad2 N s.heap := hG
  have hl := lv_entry ([.ref sf, .int a0, .int a1, .int a2, .int a3, .int a4]) (n := 8) (Nat.le_of_ble_eq_true rfl)
  rw [lg_entry_eq]
  generalize (lg_sl ([.ref sf, .int a0, .int a1, .int a2, .int a3, .int a4]) ++ List.replicate (8 - (lg_sl ([.ref sf, .int a0, .int a1, .int a2, .int a3, .int a4])).length) Slot.unset).toArray = ls at hl ⊢
  have hl : lv_has ls 8 [(0, .ref sf), (1, .int a0), (2, .int a1), (3, .int a2), (4, .int a3), (5, .int a4)] := hl
  refine lv_iload_n hx hb dX8_block_0 rfl (lv_at hl 1 rfl) ?_
  refine lv_bipush (v := 10) hx hb dX8_block_1 (by decide) ?_
  refine lv_bipush (v := 99) hx hb dX8_block_3 (by decide) ?_
  by_cases k0 : z_rg a0 10 99
  · refine z_cSv (D := (dC, dI)) (cl := vwCl) (tys := zt ca) (nw := zw_nest) (As := [.int a0, .int 10, .int 99]) (rest := []) ⟨hx, hb, hml, hown, hts⟩ (m_X8_needRange l dC dI ca (fun z : Heap => z = s.heap)  a0 10 99 k0) (cwS 3 hts gX8_block_X8_needRange rfl rfl rfl (by decide +kernel) ⟨Nat.le_of_ble_eq_true rfl, Nat.le_of_ble_eq_true rfl⟩) rfl hK hN zw_nest_ok rfl hl.1 rfl (Nat.le_of_ble_eq_true rfl) dX8_block_5 ⟨Nat.zero_le _, Nat.zero_le _⟩ hS (fun _ h => h.elim) (fun H locs hB1 oq1 hz1 hS => ?_)
    have hT : zT dC dI ca sf (ad 0) (ad2 0) H := by rw [hB1]; exact hT
    have hH : zW dC dI ca ad M H := by rw [hB1]; exact hH
    have hG : zW dC dI ca ad2 N H := by rw [hB1]; exact hG
    refine lv_iload_n hx hb dX8_block_8 rfl (lv_at hl 2 rfl) ?_
    refine lv_iconst (v := 0) hx hb dX8_block_9 (by decide) ?_
    refine lv_iconst (v := 1) hx hb dX8_block_10 (by decide) ?_
    by_cases k1 : z_rg a1 0 1
    · refine z_cSv (D := (dC, dI)) (cl := vwCl) (tys := zt ca) (nw := zw_nest) (As := [.int a1, .int 0, .int 1]) (rest := []) ⟨hx, hb, hml, hown, hts⟩ (m_X8_needRange l dC dI ca (fun z : Heap => z = H)  a1 0 1 k1) (cwS 3 hts gX8_block_X8_needRange rfl rfl rfl (by decide +kernel) ⟨Nat.le_of_ble_eq_true rfl, Nat.le_of_ble_eq_true rfl⟩) rfl hK hN zw_nest_ok rfl hl.1 rfl (Nat.le_of_ble_eq_true rfl) dX8_block_11 ⟨Nat.zero_le _, Nat.zero_le _⟩ hS (fun _ h => h.elim) (fun H locs hB1 oq1 hz1 hS => ?_)
      have hT : zT dC dI ca sf (ad 0) (ad2 0) H := by rw [hB1]; exact hT
      have hH : zW dC dI ca ad M H := by rw [hB1]; exact hH
      have hG : zW dC dI ca ad2 N H := by rw [hB1]; exact hG
      refine lv_iload_n hx hb dX8_block_14 rfl (lv_at hl 3 rfl) ?_
      refine lv_iconst (v := 0) hx hb dX8_block_15 (by decide) ?_
      refine lv_sipush (v := 2000) hx hb dX8_block_16 (by decide) ?_
      by_cases k2 : z_rg a2 0 2000
      · refine z_cSv (D := (dC, dI)) (cl := vwCl) (tys := zt ca) (nw := zw_nest) (As := [.int a2, .int 0, .int 2000]) (rest := []) ⟨hx, hb, hml, hown, hts⟩ (m_X8_needRange l dC dI ca (fun z : Heap => z = H)  a2 0 2000 k2) (cwS 3 hts gX8_block_X8_needRange rfl rfl rfl (by decide +kernel) ⟨Nat.le_of_ble_eq_true rfl, Nat.le_of_ble_eq_true rfl⟩) rfl hK hN zw_nest_ok rfl hl.1 rfl (Nat.le_of_ble_eq_true rfl) dX8_block_19 ⟨Nat.zero_le _, Nat.zero_le _⟩ hS (fun _ h => h.elim) (fun H locs hB1 oq1 hz1 hS => ?_)
        have hT : zT dC dI ca sf (ad 0) (ad2 0) H := by rw [hB1]; exact hT
        have hH : zW dC dI ca ad M H := by rw [hB1]; exact hH
        have hG : zW dC dI ca ad2 N H := by rw [hB1]; exact hG
        refine lv_iload hx hb dX8_block_22 (lv_at hl 4 rfl) ?_
        refine lv_iconst (v := 0) hx hb dX8_block_24 (by decide) ?_
        refine lv_sipush (v := 400) hx hb dX8_block_25 (by decide) ?_
        by_cases k3 : z_rg a3 0 400
        · refine z_cSv (D := (dC, dI)) (cl := vwCl) (tys := zt ca) (nw := zw_nest) (As := [.int a3, .int 0, .int 400]) (rest := []) ⟨hx, hb, hml, hown, hts⟩ (m_X8_needRange l dC dI ca (fun z : Heap => z = H)  a3 0 400 k3) (cwS 3 hts gX8_block_X8_needRange rfl rfl rfl (by decide +kernel) ⟨Nat.le_of_ble_eq_true rfl, Nat.le_of_ble_eq_true rfl⟩) rfl hK hN zw_nest_ok rfl hl.1 rfl (Nat.le_of_ble_eq_true rfl) dX8_block_28 ⟨Nat.zero_le _, Nat.zero_le _⟩ hS (fun _ h => h.elim) (fun H locs hB1 oq1 hz1 hS => ?_)
          have hT : zT dC dI ca sf (ad 0) (ad2 0) H := by rw [hB1]; exact hT
          have hH : zW dC dI ca ad M H := by rw [hB1]; exact hH
          have hG : zW dC dI ca ad2 N H := by rw [hB1]; exact hG
          refine lv_iload hx hb dX8_block_31 (lv_at hl 5 rfl) ?_
          refine lv_iconst (v := 0) hx hb dX8_block_33 (by decide) ?_
          refine lv_sipush (v := 9999) hx hb dX8_block_34 (by decide) ?_
          by_cases k4 : z_rg a4 0 9999
          · exact absurd ⟨k0, k1, k2, k3, k4⟩ h_n
          · refine z_cS9 (D := (dC, dI)) (cl := vwCl) (tys := zt ca) (nw := zw_nest) (As := [.int a4, .int 0, .int 9999]) (rest := []) ⟨hx, hb, hml, hown, hts⟩ (m_X8_needRangex l hl9 dC dI ca (fun _ => True) a4 0 9999 k4) (cwS 3 hts gX8_block_X8_needRange rfl rfl rfl (by decide +kernel) ⟨Nat.le_of_ble_eq_true rfl, Nat.le_of_ble_eq_true rfl⟩) trivial hK hN hEx zw_nest_ok rfl hl.1 rfl (Nat.le_of_ble_eq_true rfl) dX8_block_37 ⟨Nat.le_of_ble_eq_true rfl, Nat.le_of_ble_eq_true rfl⟩ hS (fun ce q9 H1 locs1 hS1 hce hcv hcl => ?_)
            exact vx_out (fun x hx9 => (htab x hx9).elim) hlocks hce hcv hcl (fun t ht _ => ⟨(), trivial, rfl, hS1.F ht⟩) hS1.2.2 (Nat.le_of_ble_eq_true rfl) (Nat.le_of_ble_eq_true rfl)
        · refine z_cS9 (D := (dC, dI)) (cl := vwCl) (tys := zt ca) (nw := zw_nest) (As := [.int a3, .int 0, .int 400]) (rest := []) ⟨hx, hb, hml, hown, hts⟩ (m_X8_needRangex l hl9 dC dI ca (fun _ => True) a3 0 400 k3) (cwS 3 hts gX8_block_X8_needRange rfl rfl rfl (by decide +kernel) ⟨Nat.le_of_ble_eq_true rfl, Nat.le_of_ble_eq_true rfl⟩) trivial hK hN hEx zw_nest_ok rfl hl.1 rfl (Nat.le_of_ble_eq_true rfl) dX8_block_28 ⟨Nat.le_of_ble_eq_true rfl, Nat.le_of_ble_eq_true rfl⟩ hS (fun ce q9 H1 locs1 hS1 hce hcv hcl => ?_)
          exact vx_out (fun x hx9 => (htab x hx9).elim) hlocks hce hcv hcl (fun t ht _ => ⟨(), trivial, rfl, hS1.F ht⟩) hS1.2.2 (Nat.le_of_ble_eq_true rfl) (Nat.le_of_ble_eq_true rfl)
      · refine z_cS9 (D := (dC, dI)) (cl := vwCl) (tys := zt ca) (nw := zw_nest) (As := [.int a2, .int 0, .int 2000]) (rest := []) ⟨hx, hb, hml, hown, hts⟩ (m_X8_needRangex l hl9 dC dI ca (fun _ => True) a2 0 2000 k2) (cwS 3 hts gX8_block_X8_needRange rfl rfl rfl (by decide +kernel) ⟨Nat.le_of_ble_eq_true rfl, Nat.le_of_ble_eq_true rfl⟩) trivial hK hN hEx zw_nest_ok rfl hl.1 rfl (Nat.le_of_ble_eq_true rfl) dX8_block_19 ⟨Nat.le_of_ble_eq_true rfl, Nat.le_of_ble_eq_true rfl⟩ hS (fun ce q9 H1 locs1 hS1 hce hcv hcl => ?_)
        exact vx_out (fun x hx9 => (htab x hx9).elim) hlocks hce hcv hcl (fun t ht _ => ⟨(), trivial, rfl, hS1.F ht⟩) hS1.2.2 (Nat.le_of_ble_eq_true rfl) (Nat.le_of_ble_eq_true rfl)
    · refine z_cS9 (D := (dC, dI)) (cl := vwCl) (tys := zt ca) (nw := zw_nest) (As := [.int a1, .int 0, .int 1]) (rest := []) ⟨hx, hb, hml, hown, hts⟩ (m_X8_needRangex l hl9 dC dI ca (fun _ => True) a1 0 1 k1) (cwS 3 hts gX8_block_X8_needRange rfl rfl rfl (by decide +kernel) ⟨Nat.le_of_ble_eq_true rfl, Nat.le_of_ble_eq_true rfl⟩) trivial hK hN hEx zw_nest_ok rfl hl.1 rfl (Nat.le_of_ble_eq_true rfl) dX8_block_11 ⟨Nat.le_of_ble_eq_true rfl, Nat.le_of_ble_eq_true rfl⟩ hS (fun ce q9 H1 locs1 hS1 hce hcv hcl => ?_)
      exact vx_out (fun x hx9 => (htab x hx9).elim) hlocks hce hcv hcl (fun t ht _ => ⟨(), trivial, rfl, hS1.F ht⟩) hS1.2.2 (Nat.le_of_ble_eq_true rfl) (Nat.le_of_ble_eq_true rfl)
  · refine z_cS9 (D := (dC, dI)) (cl := vwCl) (tys := zt ca) (nw := zw_nest) (As := [.int a0, .int 10, .int 99]) (rest := []) ⟨hx, hb, hml, hown, hts⟩ (m_X8_needRangex l hl9 dC dI ca (fun _ => True) a0 10 99 k0) (cwS 3 hts gX8_block_X8_needRange rfl rfl rfl (by decide +kernel) ⟨Nat.le_of_ble_eq_true rfl, Nat.le_of_ble_eq_true rfl⟩) trivial hK hN hEx zw_nest_ok rfl hl.1 rfl (Nat.le_of_ble_eq_true rfl) dX8_block_5 ⟨Nat.le_of_ble_eq_true rfl, Nat.le_of_ble_eq_true rfl⟩ hS (fun ce q9 H1 locs1 hS1 hce hcv hcl => ?_)
    exact vx_out (fun x hx9 => (htab x hx9).elim) hlocks hce hcv hcl (fun t ht _ => ⟨(), trivial, rfl, hS1.F ht⟩) hS1.2.2 (Nat.le_of_ble_eq_true rfl) (Nat.le_of_ble_eq_true rfl)
set_option maxHeartbeats 4000000 in
set_option maxRecDepth 100000 in
theorem m_X8_facex (l : Launch) (hl9 : l.stackTraces = false) (dC : Nat → ClassId) (dI : Nat → Nat → Nat) (ca : Nat → ClassId) (sf : Nat) (ad : Nat → Nat) (ad2 : Nat → Nat) (M : zM) (N : zM) (a0 a1 a2 : Int32) (h_n : ¬ z_ni a0 (M 0 10)) : vx_Met l yX8_face wsX8_face ({ frames := 7, cells := 1, slots := 6, locals := 103 }) (z_P9 (dC, dI) vwCl (zt ca) zw_nest [.ref sf, .int a0, .int a1, .int a2] zFa (fun H => zT dC dI ca sf (ad 0) (ad2 0) H ∧ zW dC dI ca ad M H ∧ zW dC dI ca ad2 N H)) z_I9 (z_X9 zIOB) 1 6 zFa := by
  refine vx_ofW (cc := cX8_face) (maxL := 6) (ret := (some .int)) (by decide) rfl ?_
  intro p e s m args below meth c s₁ B9 hml htab hv
  obtain ⟨rfl, ⟨hT, hH, hG⟩, hK, hN, hEx⟩ := hv
  have hx := B9.exec
  have hb := B9.bytes
  have hr := B9.returns
  have hts := atoms_spec (ws := wsX8_face) B9.pre
  have hown : s.vm.findClass RX8 = some m.cls := findClass_of_methodNamed B9.named
  have hlocks := B9.notSynchronized
  have hS : va_S zFa s.heap s.heap [] := va_S.rf
  have hT : zT dC dI ca sf (ad 0) (ad2 0) s.heap := hT
  have hH : zW dC dI ca ad M s.heap := hH
  have hG : zW dC dI ca ad2 N s.heap := hG
  have hinX3 : ∀ w ∈ u_ws RX3 TX3 15, w ∈ wsX8_face := by decide +kernel
  have hinX8 : ∀ w ∈ u_ws RX8 TX8 2, w ∈ wsX8_face := by decide +kernel
  have hl := lv_entry ([.ref sf, .int a0, .int a1, .int a2]) (n := 6) (Nat.le_of_ble_eq_true rfl)
  rw [lg_entry_eq]
  generalize (lg_sl ([.ref sf, .int a0, .int a1, .int a2]) ++ List.replicate (6 - (lg_sl ([.ref sf, .int a0, .int a1, .int a2])).length) Slot.unset).toArray = ls at hl ⊢
  have hl : lv_has ls 6 [(0, .ref sf), (1, .int a0), (2, .int a1), (3, .int a2)] := hl
  refine lv_iload_n hx hb dX8_face_0 rfl (lv_at hl 1 rfl) ?_
  refine lv_aload_n hx hb dX8_face_1 rfl (lv_at hl 0 rfl) ?_
  refine z_gS (k := 0) (v := ad 0) hx hb hts hinX8 hown hK hT (by decide) rfl (hts (.fieldLink RX8 10 "Steamfield" "land" "LSteamfield$Land;") (by decide +kernel)) (fun _ h9 => h9) dX8_face_2 ?_
  refine z_giN (D := (dC, dI)) (cl := vwCl) (C := RX3) (T := TX3) (N := 15) (ci := 3) (k := 10) hx hb hts hinX3 hown hK hH zk_0 (by decide) rfl (by decide) rfl (hN (.fieldLinkNest RX8 23 "Steamfield$Land" "blockCount" "I" "Steamfield") (by decide +kernel)) (fun _ h9 => h9) dX8_face_5 ?_
  refine lv_topi (fun x1 ex1 => ?_)
  refine z_cS9 (D := (dC, dI)) (cl := vwCl) (tys := zt ca) (nw := zw_nest) (As := [.int a0, .int x1]) (rest := []) ⟨hx, hb, hml, hown, hts⟩ (m_X8_needIndexx l hl9 dC dI ca (fun _ => True) a0 x1 (by rw [ex1]; exact h_n)) (cwS 2 hts gX8_face_X8_needIndex rfl rfl rfl (by decide +kernel) ⟨Nat.le_of_ble_eq_true rfl, Nat.le_of_ble_eq_true rfl⟩) trivial hK hN hEx zw_nest_ok rfl hl.1 rfl (Nat.le_of_ble_eq_true rfl) dX8_face_8 ⟨Nat.le_of_ble_eq_true rfl, Nat.le_of_ble_eq_true rfl⟩ hS (fun ce q9 H1 locs1 hS1 hce hcv hcl => ?_)
  exact vx_out (fun x hx9 => (htab x hx9).elim) hlocks hce hcv hcl (fun t ht _ => ⟨(), trivial, rfl, hS1.F ht⟩) hS1.2.2 (Nat.le_of_ble_eq_true rfl) (Nat.le_of_ble_eq_true rfl)
set_option maxHeartbeats 4000000 in
set_option maxRecDepth 100000 in
theorem m_X8_wellx (l : Launch) (hl9 : l.stackTraces = false) (dC : Nat → ClassId) (dI : Nat → Nat → Nat) (ca : Nat → ClassId) (sf : Nat) (ad : Nat → Nat) (ad2 : Nat → Nat) (M : zM) (N : zM) (a0 a1 : Int32) (h_n : ¬ z_ni a0 (M 0 10)) : vx_Met l yX8_well wsX8_well ({ frames := 7, cells := 1, slots := 6, locals := 103 }) (z_P9 (dC, dI) vwCl (zt ca) zw_nest [.ref sf, .int a0, .int a1] zFa (fun H => zT dC dI ca sf (ad 0) (ad2 0) H ∧ zW dC dI ca ad M H ∧ zW dC dI ca ad2 N H)) z_I9 (z_X9 zIOB) 1 6 zFa := by
  refine vx_ofW (cc := cX8_well) (maxL := 5) (ret := (some .int)) (by decide) rfl ?_
  intro p e s m args below meth c s₁ B9 hml htab hv
  obtain ⟨rfl, ⟨hT, hH, hG⟩, hK, hN, hEx⟩ := hv
  have hx := B9.exec
  have hb := B9.bytes
  have hr := B9.returns
  have hts := atoms_spec (ws := wsX8_well) B9.pre
  have hown : s.vm.findClass RX8 = some m.cls := findClass_of_methodNamed B9.named
  have hlocks := B9.notSynchronized
  have hS : va_S zFa s.heap s.heap [] := va_S.rf
  have hT : zT dC dI ca sf (ad 0) (ad2 0) s.heap := hT
  have hH : zW dC dI ca ad M s.heap := hH
  have hG : zW dC dI ca ad2 N s.heap := hG
  have hinX3 : ∀ w ∈ u_ws RX3 TX3 15, w ∈ wsX8_well := by decide +kernel
  have hinX8 : ∀ w ∈ u_ws RX8 TX8 2, w ∈ wsX8_well := by decide +kernel
  have hl := lv_entry ([.ref sf, .int a0, .int a1]) (n := 5) (Nat.le_of_ble_eq_true rfl)
  rw [lg_entry_eq]
  generalize (lg_sl ([.ref sf, .int a0, .int a1]) ++ List.replicate (5 - (lg_sl ([.ref sf, .int a0, .int a1])).length) Slot.unset).toArray = ls at hl ⊢
  have hl : lv_has ls 5 [(0, .ref sf), (1, .int a0), (2, .int a1)] := hl
  refine lv_iload_n hx hb dX8_well_0 rfl (lv_at hl 1 rfl) ?_
  refine lv_aload_n hx hb dX8_well_1 rfl (lv_at hl 0 rfl) ?_
  refine z_gS (k := 0) (v := ad 0) hx hb hts hinX8 hown hK hT (by decide) rfl (hts (.fieldLink RX8 10 "Steamfield" "land" "LSteamfield$Land;") (by decide +kernel)) (fun _ h9 => h9) dX8_well_2 ?_
  refine z_giN (D := (dC, dI)) (cl := vwCl) (C := RX3) (T := TX3) (N := 15) (ci := 3) (k := 10) hx hb hts hinX3 hown hK hH zk_0 (by decide) rfl (by decide) rfl (hN (.fieldLinkNest RX8 23 "Steamfield$Land" "blockCount" "I" "Steamfield") (by decide +kernel)) (fun _ h9 => h9) dX8_well_5 ?_
  refine lv_topi (fun x1 ex1 => ?_)
  refine z_cS9 (D := (dC, dI)) (cl := vwCl) (tys := zt ca) (nw := zw_nest) (As := [.int a0, .int x1]) (rest := []) ⟨hx, hb, hml, hown, hts⟩ (m_X8_needIndexx l hl9 dC dI ca (fun _ => True) a0 x1 (by rw [ex1]; exact h_n)) (cwS 2 hts gX8_well_X8_needIndex rfl rfl rfl (by decide +kernel) ⟨Nat.le_of_ble_eq_true rfl, Nat.le_of_ble_eq_true rfl⟩) trivial hK hN hEx zw_nest_ok rfl hl.1 rfl (Nat.le_of_ble_eq_true rfl) dX8_well_8 ⟨Nat.le_of_ble_eq_true rfl, Nat.le_of_ble_eq_true rfl⟩ hS (fun ce q9 H1 locs1 hS1 hce hcv hcl => ?_)
  exact vx_out (fun x hx9 => (htab x hx9).elim) hlocks hce hcv hcl (fun t ht _ => ⟨(), trivial, rfl, hS1.F ht⟩) hS1.2.2 (Nat.le_of_ble_eq_true rfl) (Nat.le_of_ble_eq_true rfl)
set_option maxHeartbeats 4000000 in
set_option maxRecDepth 100000 in
theorem m_X8_springx (l : Launch) (hl9 : l.stackTraces = false) (dC : Nat → ClassId) (dI : Nat → Nat → Nat) (ca : Nat → ClassId) (sf : Nat) (ad : Nat → Nat) (ad2 : Nat → Nat) (M : zM) (N : zM) (a0 a1 a2 : Int32) (h_n : ¬ z_ni a0 (M 0 10)) : vx_Met l yX8_spring wsX8_spring ({ frames := 7, cells := 1, slots := 6, locals := 103 }) (z_P9 (dC, dI) vwCl (zt ca) zw_nest [.ref sf, .int a0, .int a1, .int a2] zFa (fun H => zT dC dI ca sf (ad 0) (ad2 0) H ∧ zW dC dI ca ad M H ∧ zW dC dI ca ad2 N H)) z_I9 (z_X9 zIOB) 1 6 zFa := by
  refine vx_ofW (cc := cX8_spring) (maxL := 6) (ret := (some .int)) (by decide) rfl ?_
  intro p e s m args below meth c s₁ B9 hml htab hv
  obtain ⟨rfl, ⟨hT, hH, hG⟩, hK, hN, hEx⟩ := hv
  have hx := B9.exec
  have hb := B9.bytes
  have hr := B9.returns
  have hts := atoms_spec (ws := wsX8_spring) B9.pre
  have hown : s.vm.findClass RX8 = some m.cls := findClass_of_methodNamed B9.named
  have hlocks := B9.notSynchronized
  have hS : va_S zFa s.heap s.heap [] := va_S.rf
  have hT : zT dC dI ca sf (ad 0) (ad2 0) s.heap := hT
  have hH : zW dC dI ca ad M s.heap := hH
  have hG : zW dC dI ca ad2 N s.heap := hG
  have hinX3 : ∀ w ∈ u_ws RX3 TX3 15, w ∈ wsX8_spring := by decide +kernel
  have hinX8 : ∀ w ∈ u_ws RX8 TX8 2, w ∈ wsX8_spring := by decide +kernel
  have hl := lv_entry ([.ref sf, .int a0, .int a1, .int a2]) (n := 6) (Nat.le_of_ble_eq_true rfl)
  rw [lg_entry_eq]
  generalize (lg_sl ([.ref sf, .int a0, .int a1, .int a2]) ++ List.replicate (6 - (lg_sl ([.ref sf, .int a0, .int a1, .int a2])).length) Slot.unset).toArray = ls at hl ⊢
  have hl : lv_has ls 6 [(0, .ref sf), (1, .int a0), (2, .int a1), (3, .int a2)] := hl
  refine lv_iload_n hx hb dX8_spring_0 rfl (lv_at hl 1 rfl) ?_
  refine lv_aload_n hx hb dX8_spring_1 rfl (lv_at hl 0 rfl) ?_
  refine z_gS (k := 0) (v := ad 0) hx hb hts hinX8 hown hK hT (by decide) rfl (hts (.fieldLink RX8 10 "Steamfield" "land" "LSteamfield$Land;") (by decide +kernel)) (fun _ h9 => h9) dX8_spring_2 ?_
  refine z_giN (D := (dC, dI)) (cl := vwCl) (C := RX3) (T := TX3) (N := 15) (ci := 3) (k := 10) hx hb hts hinX3 hown hK hH zk_0 (by decide) rfl (by decide) rfl (hN (.fieldLinkNest RX8 23 "Steamfield$Land" "blockCount" "I" "Steamfield") (by decide +kernel)) (fun _ h9 => h9) dX8_spring_5 ?_
  refine lv_topi (fun x1 ex1 => ?_)
  refine z_cS9 (D := (dC, dI)) (cl := vwCl) (tys := zt ca) (nw := zw_nest) (As := [.int a0, .int x1]) (rest := []) ⟨hx, hb, hml, hown, hts⟩ (m_X8_needIndexx l hl9 dC dI ca (fun _ => True) a0 x1 (by rw [ex1]; exact h_n)) (cwS 2 hts gX8_spring_X8_needIndex rfl rfl rfl (by decide +kernel) ⟨Nat.le_of_ble_eq_true rfl, Nat.le_of_ble_eq_true rfl⟩) trivial hK hN hEx zw_nest_ok rfl hl.1 rfl (Nat.le_of_ble_eq_true rfl) dX8_spring_8 ⟨Nat.le_of_ble_eq_true rfl, Nat.le_of_ble_eq_true rfl⟩ hS (fun ce q9 H1 locs1 hS1 hce hcv hcl => ?_)
  exact vx_out (fun x hx9 => (htab x hx9).elim) hlocks hce hcv hcl (fun t ht _ => ⟨(), trivial, rfl, hS1.F ht⟩) hS1.2.2 (Nat.le_of_ble_eq_true rfl) (Nat.le_of_ble_eq_true rfl)
set_option maxHeartbeats 4000000 in
set_option maxRecDepth 100000 in
theorem m_X8_valvex (l : Launch) (hl9 : l.stackTraces = false) (dC : Nat → ClassId) (dI : Nat → Nat → Nat) (ca : Nat → ClassId) (sf : Nat) (ad : Nat → Nat) (ad2 : Nat → Nat) (M : zM) (N : zM) (a0 a1 : Int32) (h_n : ¬ z_ni a0 (M 0 12)) : vx_Met l yX8_valve wsX8_valve ({ frames := 7, cells := 1, slots := 6, locals := 103 }) (z_P9 (dC, dI) vwCl (zt ca) zw_nest [.ref sf, .int a0, .int a1] zFa (fun H => zT dC dI ca sf (ad 0) (ad2 0) H ∧ zW dC dI ca ad M H ∧ zW dC dI ca ad2 N H)) z_I9 (z_X9 zIOB) 1 6 zFa := by
  refine vx_ofW (cc := cX8_valve) (maxL := 4) (ret := (some .int)) (by decide) rfl ?_
  intro p e s m args below meth c s₁ B9 hml htab hv
  obtain ⟨rfl, ⟨hT, hH, hG⟩, hK, hN, hEx⟩ := hv
  have hx := B9.exec
  have hb := B9.bytes
  have hr := B9.returns
  have hts := atoms_spec (ws := wsX8_valve) B9.pre
  have hown : s.vm.findClass RX8 = some m.cls := findClass_of_methodNamed B9.named
  have hlocks := B9.notSynchronized
  have hS : va_S zFa s.heap s.heap [] := va_S.rf
  have hT : zT dC dI ca sf (ad 0) (ad2 0) s.heap := hT
  have hH : zW dC dI ca ad M s.heap := hH
  have hG : zW dC dI ca ad2 N s.heap := hG
  have hinX3 : ∀ w ∈ u_ws RX3 TX3 15, w ∈ wsX8_valve := by decide +kernel
  have hinX8 : ∀ w ∈ u_ws RX8 TX8 2, w ∈ wsX8_valve := by decide +kernel
  have hl := lv_entry ([.ref sf, .int a0, .int a1]) (n := 4) (Nat.le_of_ble_eq_true rfl)
  rw [lg_entry_eq]
  generalize (lg_sl ([.ref sf, .int a0, .int a1]) ++ List.replicate (4 - (lg_sl ([.ref sf, .int a0, .int a1])).length) Slot.unset).toArray = ls at hl ⊢
  have hl : lv_has ls 4 [(0, .ref sf), (1, .int a0), (2, .int a1)] := hl
  refine lv_iload_n hx hb dX8_valve_0 rfl (lv_at hl 1 rfl) ?_
  refine lv_aload_n hx hb dX8_valve_1 rfl (lv_at hl 0 rfl) ?_
  refine z_gS (k := 0) (v := ad 0) hx hb hts hinX8 hown hK hT (by decide) rfl (hts (.fieldLink RX8 10 "Steamfield" "land" "LSteamfield$Land;") (by decide +kernel)) (fun _ h9 => h9) dX8_valve_2 ?_
  refine z_giN (D := (dC, dI)) (cl := vwCl) (C := RX3) (T := TX3) (N := 15) (ci := 3) (k := 12) hx hb hts hinX3 hown hK hH zk_0 (by decide) rfl (by decide) rfl (hN (.fieldLinkNest RX8 99 "Steamfield$Land" "wellCount" "I" "Steamfield") (by decide +kernel)) (fun _ h9 => h9) dX8_valve_5 ?_
  refine lv_topi (fun x1 ex1 => ?_)
  refine z_cS9 (D := (dC, dI)) (cl := vwCl) (tys := zt ca) (nw := zw_nest) (As := [.int a0, .int x1]) (rest := []) ⟨hx, hb, hml, hown, hts⟩ (m_X8_needIndexx l hl9 dC dI ca (fun _ => True) a0 x1 (by rw [ex1]; exact h_n)) (cwS 2 hts gX8_valve_X8_needIndex rfl rfl rfl (by decide +kernel) ⟨Nat.le_of_ble_eq_true rfl, Nat.le_of_ble_eq_true rfl⟩) trivial hK hN hEx zw_nest_ok rfl hl.1 rfl (Nat.le_of_ble_eq_true rfl) dX8_valve_8 ⟨Nat.le_of_ble_eq_true rfl, Nat.le_of_ble_eq_true rfl⟩ hS (fun ce q9 H1 locs1 hS1 hce hcv hcl => ?_)
  exact vx_out (fun x hx9 => (htab x hx9).elim) hlocks hce hcv hcl (fun t ht _ => ⟨(), trivial, rfl, hS1.F ht⟩) hS1.2.2 (Nat.le_of_ble_eq_true rfl) (Nat.le_of_ble_eq_true rfl)
set_option maxHeartbeats 4000000 in
set_option maxRecDepth 100000 in
theorem m_X8_tracex (l : Launch) (hl9 : l.stackTraces = false) (dC : Nat → ClassId) (dI : Nat → Nat → Nat) (ca : Nat → ClassId) (sf : Nat) (ad : Nat → Nat) (ad2 : Nat → Nat) (M : zM) (N : zM) (a0 a1 : Int32) (h_n : ¬ z_ni a0 (M 0 12)) : vx_Met l yX8_trace wsX8_trace ({ frames := 7, cells := 1, slots := 6, locals := 103 }) (z_P9 (dC, dI) vwCl (zt ca) zw_nest [.ref sf, .int a0, .int a1] zFa (fun H => zT dC dI ca sf (ad 0) (ad2 0) H ∧ zW dC dI ca ad M H ∧ zW dC dI ca ad2 N H)) z_I9 (z_X9 zIOB) 1 6 zFa := by
  refine vx_ofW (cc := cX8_trace) (maxL := 4) (ret := (some .int)) (by decide) rfl ?_
  intro p e s m args below meth c s₁ B9 hml htab hv
  obtain ⟨rfl, ⟨hT, hH, hG⟩, hK, hN, hEx⟩ := hv
  have hx := B9.exec
  have hb := B9.bytes
  have hr := B9.returns
  have hts := atoms_spec (ws := wsX8_trace) B9.pre
  have hown : s.vm.findClass RX8 = some m.cls := findClass_of_methodNamed B9.named
  have hlocks := B9.notSynchronized
  have hS : va_S zFa s.heap s.heap [] := va_S.rf
  have hT : zT dC dI ca sf (ad 0) (ad2 0) s.heap := hT
  have hH : zW dC dI ca ad M s.heap := hH
  have hG : zW dC dI ca ad2 N s.heap := hG
  have hinX3 : ∀ w ∈ u_ws RX3 TX3 15, w ∈ wsX8_trace := by decide +kernel
  have hinX8 : ∀ w ∈ u_ws RX8 TX8 2, w ∈ wsX8_trace := by decide +kernel
  have hl := lv_entry ([.ref sf, .int a0, .int a1]) (n := 4) (Nat.le_of_ble_eq_true rfl)
  rw [lg_entry_eq]
  generalize (lg_sl ([.ref sf, .int a0, .int a1]) ++ List.replicate (4 - (lg_sl ([.ref sf, .int a0, .int a1])).length) Slot.unset).toArray = ls at hl ⊢
  have hl : lv_has ls 4 [(0, .ref sf), (1, .int a0), (2, .int a1)] := hl
  refine lv_iload_n hx hb dX8_trace_0 rfl (lv_at hl 1 rfl) ?_
  refine lv_aload_n hx hb dX8_trace_1 rfl (lv_at hl 0 rfl) ?_
  refine z_gS (k := 0) (v := ad 0) hx hb hts hinX8 hown hK hT (by decide) rfl (hts (.fieldLink RX8 10 "Steamfield" "land" "LSteamfield$Land;") (by decide +kernel)) (fun _ h9 => h9) dX8_trace_2 ?_
  refine z_giN (D := (dC, dI)) (cl := vwCl) (C := RX3) (T := TX3) (N := 15) (ci := 3) (k := 12) hx hb hts hinX3 hown hK hH zk_0 (by decide) rfl (by decide) rfl (hN (.fieldLinkNest RX8 99 "Steamfield$Land" "wellCount" "I" "Steamfield") (by decide +kernel)) (fun _ h9 => h9) dX8_trace_5 ?_
  refine lv_topi (fun x1 ex1 => ?_)
  refine z_cS9 (D := (dC, dI)) (cl := vwCl) (tys := zt ca) (nw := zw_nest) (As := [.int a0, .int x1]) (rest := []) ⟨hx, hb, hml, hown, hts⟩ (m_X8_needIndexx l hl9 dC dI ca (fun _ => True) a0 x1 (by rw [ex1]; exact h_n)) (cwS 2 hts gX8_trace_X8_needIndex rfl rfl rfl (by decide +kernel) ⟨Nat.le_of_ble_eq_true rfl, Nat.le_of_ble_eq_true rfl⟩) trivial hK hN hEx zw_nest_ok rfl hl.1 rfl (Nat.le_of_ble_eq_true rfl) dX8_trace_8 ⟨Nat.le_of_ble_eq_true rfl, Nat.le_of_ble_eq_true rfl⟩ hS (fun ce q9 H1 locs1 hS1 hce hcv hcl => ?_)
  exact vx_out (fun x hx9 => (htab x hx9).elim) hlocks hce hcv hcl (fun t ht _ => ⟨(), trivial, rfl, hS1.F ht⟩) hS1.2.2 (Nat.le_of_ble_eq_true rfl) (Nat.le_of_ble_eq_true rfl)
set_option maxHeartbeats 4000000 in
set_option maxRecDepth 100000 in
theorem m_X8_cleanx (l : Launch) (hl9 : l.stackTraces = false) (dC : Nat → ClassId) (dI : Nat → Nat → Nat) (ca : Nat → ClassId) (sf : Nat) (ad : Nat → Nat) (ad2 : Nat → Nat) (M : zM) (N : zM) (a0 : Int32) (h_n : ¬ z_ni a0 (M 0 12)) : vx_Met l yX8_clean wsX8_clean ({ frames := 7, cells := 1, slots := 6, locals := 103 }) (z_P9 (dC, dI) vwCl (zt ca) zw_nest [.ref sf, .int a0] zFa (fun H => zT dC dI ca sf (ad 0) (ad2 0) H ∧ zW dC dI ca ad M H ∧ zW dC dI ca ad2 N H)) z_I9 (z_X9 zIOB) 1 6 zFa := by
  refine vx_ofW (cc := cX8_clean) (maxL := 6) (ret := (some .int)) (by decide) rfl ?_
  intro p e s m args below meth c s₁ B9 hml htab hv
  obtain ⟨rfl, ⟨hT, hH, hG⟩, hK, hN, hEx⟩ := hv
  have hx := B9.exec
  have hb := B9.bytes
  have hr := B9.returns
  have hts := atoms_spec (ws := wsX8_clean) B9.pre
  have hown : s.vm.findClass RX8 = some m.cls := findClass_of_methodNamed B9.named
  have hlocks := B9.notSynchronized
  have hS : va_S zFa s.heap s.heap [] := va_S.rf
  have hT : zT dC dI ca sf (ad 0) (ad2 0) s.heap := hT
  have hH : zW dC dI ca ad M s.heap := hH
  have hG : zW dC dI ca ad2 N s.heap := hG
  have hinX3 : ∀ w ∈ u_ws RX3 TX3 15, w ∈ wsX8_clean := by decide +kernel
  have hinX8 : ∀ w ∈ u_ws RX8 TX8 2, w ∈ wsX8_clean := by decide +kernel
  have hl := lv_entry ([.ref sf, .int a0]) (n := 6) (Nat.le_of_ble_eq_true rfl)
  rw [lg_entry_eq]
  generalize (lg_sl ([.ref sf, .int a0]) ++ List.replicate (6 - (lg_sl ([.ref sf, .int a0])).length) Slot.unset).toArray = ls at hl ⊢
  have hl : lv_has ls 6 [(0, .ref sf), (1, .int a0)] := hl
  refine lv_iload_n hx hb dX8_clean_0 rfl (lv_at hl 1 rfl) ?_
  refine lv_aload_n hx hb dX8_clean_1 rfl (lv_at hl 0 rfl) ?_
  refine z_gS (k := 0) (v := ad 0) hx hb hts hinX8 hown hK hT (by decide) rfl (hts (.fieldLink RX8 10 "Steamfield" "land" "LSteamfield$Land;") (by decide +kernel)) (fun _ h9 => h9) dX8_clean_2 ?_
  refine z_giN (D := (dC, dI)) (cl := vwCl) (C := RX3) (T := TX3) (N := 15) (ci := 3) (k := 12) hx hb hts hinX3 hown hK hH zk_0 (by decide) rfl (by decide) rfl (hN (.fieldLinkNest RX8 99 "Steamfield$Land" "wellCount" "I" "Steamfield") (by decide +kernel)) (fun _ h9 => h9) dX8_clean_5 ?_
  refine lv_topi (fun x1 ex1 => ?_)
  refine z_cS9 (D := (dC, dI)) (cl := vwCl) (tys := zt ca) (nw := zw_nest) (As := [.int a0, .int x1]) (rest := []) ⟨hx, hb, hml, hown, hts⟩ (m_X8_needIndexx l hl9 dC dI ca (fun _ => True) a0 x1 (by rw [ex1]; exact h_n)) (cwS 2 hts gX8_clean_X8_needIndex rfl rfl rfl (by decide +kernel) ⟨Nat.le_of_ble_eq_true rfl, Nat.le_of_ble_eq_true rfl⟩) trivial hK hN hEx zw_nest_ok rfl hl.1 rfl (Nat.le_of_ble_eq_true rfl) dX8_clean_8 ⟨Nat.le_of_ble_eq_true rfl, Nat.le_of_ble_eq_true rfl⟩ hS (fun ce q9 H1 locs1 hS1 hce hcv hcl => ?_)
  exact vx_out (fun x hx9 => (htab x hx9).elim) hlocks hce hcv hcl (fun t ht _ => ⟨(), trivial, rfl, hS1.F ht⟩) hS1.2.2 (Nat.le_of_ble_eq_true rfl) (Nat.le_of_ble_eq_true rfl)
set_option maxHeartbeats 4000000 in
set_option maxRecDepth 100000 in
theorem m_X8_turbinex (l : Launch) (hl9 : l.stackTraces = false) (dC : Nat → ClassId) (dI : Nat → Nat → Nat) (ca : Nat → ClassId) (sf : Nat) (ad : Nat → Nat) (ad2 : Nat → Nat) (M : zM) (N : zM) (a0 : Int32) (h_n : ¬ z_rg a0 0 99) : vx_Met l yX8_turbine wsX8_turbine ({ frames := 7, cells := 1, slots := 6, locals := 104 }) (z_P9 (dC, dI) vwCl (zt ca) zw_nest [.ref sf, .int a0] zFa (fun H => zT dC dI ca sf (ad 0) (ad2 0) H ∧ zW dC dI ca ad M H ∧ zW dC dI ca ad2 N H)) z_I9 (z_X9 zIAE) 1 6 zFa := by
  refine vx_ofW (cc := cX8_turbine) (maxL := 3) (ret := (some .int)) (by decide) rfl ?_
  intro p e s m args below meth c s₁ B9 hml htab hv
  obtain ⟨rfl, ⟨hT, hH, hG⟩, hK, hN, hEx⟩ := hv
  have hx := B9.exec
  have hb := B9.bytes
  have hr := B9.returns
  have hts := atoms_spec (ws := wsX8_turbine) B9.pre
  have hown : s.vm.findClass RX8 = some m.cls := findClass_of_methodNamed B9.named
  have hlocks := B9.notSynchronized
  have hS : va_S zFa s.heap s.heap [] := va_S.rf
  have hT : zT dC dI ca sf (ad 0) (ad2 0) s.heap := hT
  have hH : zW dC dI ca ad M s.heap := hH
  have hG : zW dC dI ca ad2 N s.heap := hG
  have hl := lv_entry ([.ref sf, .int a0]) (n := 3) (Nat.le_of_ble_eq_true rfl)
  rw [lg_entry_eq]
  generalize (lg_sl ([.ref sf, .int a0]) ++ List.replicate (3 - (lg_sl ([.ref sf, .int a0])).length) Slot.unset).toArray = ls at hl ⊢
  have hl : lv_has ls 3 [(0, .ref sf), (1, .int a0)] := hl
  refine lv_iload_n hx hb dX8_turbine_0 rfl (lv_at hl 1 rfl) ?_
  refine lv_iconst (v := 0) hx hb dX8_turbine_1 (by decide) ?_
  refine lv_bipush (v := 99) hx hb dX8_turbine_2 (by decide) ?_
  refine z_cS9 (D := (dC, dI)) (cl := vwCl) (tys := zt ca) (nw := zw_nest) (As := [.int a0, .int 0, .int 99]) (rest := []) ⟨hx, hb, hml, hown, hts⟩ (m_X8_needRangex l hl9 dC dI ca (fun _ => True) a0 0 99 h_n) (cwS 3 hts gX8_turbine_X8_needRange rfl rfl rfl (by decide +kernel) ⟨Nat.le_of_ble_eq_true rfl, Nat.le_of_ble_eq_true rfl⟩) trivial hK hN hEx zw_nest_ok rfl hl.1 rfl (Nat.le_of_ble_eq_true rfl) dX8_turbine_4 ⟨Nat.le_of_ble_eq_true rfl, Nat.le_of_ble_eq_true rfl⟩ hS (fun ce q9 H1 locs1 hS1 hce hcv hcl => ?_)
  exact vx_out (fun x hx9 => (htab x hx9).elim) hlocks hce hcv hcl (fun t ht _ => ⟨(), trivial, rfl, hS1.F ht⟩) hS1.2.2 (Nat.le_of_ble_eq_true rfl) (Nat.le_of_ble_eq_true rfl)
set_option maxHeartbeats 4000000 in
set_option maxRecDepth 100000 in
theorem m_X8_townx (l : Launch) (hl9 : l.stackTraces = false) (dC : Nat → ClassId) (dI : Nat → Nat → Nat) (ca : Nat → ClassId) (sf : Nat) (ad : Nat → Nat) (ad2 : Nat → Nat) (M : zM) (N : zM) (a0 : Int32) (h_n : ¬ z_rg a0 0 999) : vx_Met l yX8_town wsX8_town ({ frames := 7, cells := 1, slots := 6, locals := 104 }) (z_P9 (dC, dI) vwCl (zt ca) zw_nest [.ref sf, .int a0] zFa (fun H => zT dC dI ca sf (ad 0) (ad2 0) H ∧ zW dC dI ca ad M H ∧ zW dC dI ca ad2 N H)) z_I9 (z_X9 zIAE) 1 6 zFa := by
  refine vx_ofW (cc := cX8_town) (maxL := 3) (ret := (some .int)) (by decide) rfl ?_
  intro p e s m args below meth c s₁ B9 hml htab hv
  obtain ⟨rfl, ⟨hT, hH, hG⟩, hK, hN, hEx⟩ := hv
  have hx := B9.exec
  have hb := B9.bytes
  have hr := B9.returns
  have hts := atoms_spec (ws := wsX8_town) B9.pre
  have hown : s.vm.findClass RX8 = some m.cls := findClass_of_methodNamed B9.named
  have hlocks := B9.notSynchronized
  have hS : va_S zFa s.heap s.heap [] := va_S.rf
  have hT : zT dC dI ca sf (ad 0) (ad2 0) s.heap := hT
  have hH : zW dC dI ca ad M s.heap := hH
  have hG : zW dC dI ca ad2 N s.heap := hG
  have hl := lv_entry ([.ref sf, .int a0]) (n := 3) (Nat.le_of_ble_eq_true rfl)
  rw [lg_entry_eq]
  generalize (lg_sl ([.ref sf, .int a0]) ++ List.replicate (3 - (lg_sl ([.ref sf, .int a0])).length) Slot.unset).toArray = ls at hl ⊢
  have hl : lv_has ls 3 [(0, .ref sf), (1, .int a0)] := hl
  refine lv_iload_n hx hb dX8_town_0 rfl (lv_at hl 1 rfl) ?_
  refine lv_iconst (v := 0) hx hb dX8_town_1 (by decide) ?_
  refine lv_sipush (v := 999) hx hb dX8_town_2 (by decide) ?_
  refine z_cS9 (D := (dC, dI)) (cl := vwCl) (tys := zt ca) (nw := zw_nest) (As := [.int a0, .int 0, .int 999]) (rest := []) ⟨hx, hb, hml, hown, hts⟩ (m_X8_needRangex l hl9 dC dI ca (fun _ => True) a0 0 999 h_n) (cwS 3 hts gX8_town_X8_needRange rfl rfl rfl (by decide +kernel) ⟨Nat.le_of_ble_eq_true rfl, Nat.le_of_ble_eq_true rfl⟩) trivial hK hN hEx zw_nest_ok rfl hl.1 rfl (Nat.le_of_ble_eq_true rfl) dX8_town_5 ⟨Nat.le_of_ble_eq_true rfl, Nat.le_of_ble_eq_true rfl⟩ hS (fun ce q9 H1 locs1 hS1 hce hcv hcl => ?_)
  exact vx_out (fun x hx9 => (htab x hx9).elim) hlocks hce hcv hcl (fun t ht _ => ⟨(), trivial, rfl, hS1.F ht⟩) hS1.2.2 (Nat.le_of_ble_eq_true rfl) (Nat.le_of_ble_eq_true rfl)
set_option maxHeartbeats 4000000 in
set_option maxRecDepth 100000 in
theorem m_X8_runx (l : Launch) (hl9 : l.stackTraces = false) (dC : Nat → ClassId) (dI : Nat → Nat → Nat) (ca : Nat → ClassId) (sf : Nat) (ad : Nat → Nat) (ad2 : Nat → Nat) (M : zM) (N : zM) (a0 : Int32) (h_n : ¬ z_rg a0 1 30) : vx_Met l yX8_run wsX8_run ({ frames := 7, cells := 1, slots := 6, locals := 104 }) (z_P9 (dC, dI) vwCl (zt ca) zw_nest [.ref sf, .int a0] zFa (fun H => zT dC dI ca sf (ad 0) (ad2 0) H ∧ zW dC dI ca ad M H ∧ zW dC dI ca ad2 N H)) z_I9 (z_X9 zIAE) 1 6 zFa := by
  refine vx_ofW (cc := cX8_run) (maxL := 2) (ret := (some .int)) (by decide) rfl ?_
  intro p e s m args below meth c s₁ B9 hml htab hv
  obtain ⟨rfl, ⟨hT, hH, hG⟩, hK, hN, hEx⟩ := hv
  have hx := B9.exec
  have hb := B9.bytes
  have hr := B9.returns
  have hts := atoms_spec (ws := wsX8_run) B9.pre
  have hown : s.vm.findClass RX8 = some m.cls := findClass_of_methodNamed B9.named
  have hlocks := B9.notSynchronized
  have hS : va_S zFa s.heap s.heap [] := va_S.rf
  have hT : zT dC dI ca sf (ad 0) (ad2 0) s.heap := hT
  have hH : zW dC dI ca ad M s.heap := hH
  have hG : zW dC dI ca ad2 N s.heap := hG
  have hl := lv_entry ([.ref sf, .int a0]) (n := 2) (Nat.le_of_ble_eq_true rfl)
  rw [lg_entry_eq]
  generalize (lg_sl ([.ref sf, .int a0]) ++ List.replicate (2 - (lg_sl ([.ref sf, .int a0])).length) Slot.unset).toArray = ls at hl ⊢
  have hl : lv_has ls 2 [(0, .ref sf), (1, .int a0)] := hl
  refine lv_iload_n hx hb dX8_run_0 rfl (lv_at hl 1 rfl) ?_
  refine lv_iconst (v := 1) hx hb dX8_run_1 (by decide) ?_
  refine lv_bipush (v := 30) hx hb dX8_run_2 (by decide) ?_
  refine z_cS9 (D := (dC, dI)) (cl := vwCl) (tys := zt ca) (nw := zw_nest) (As := [.int a0, .int 1, .int 30]) (rest := []) ⟨hx, hb, hml, hown, hts⟩ (m_X8_needRangex l hl9 dC dI ca (fun _ => True) a0 1 30 h_n) (cwS 3 hts gX8_run_X8_needRange rfl rfl rfl (by decide +kernel) ⟨Nat.le_of_ble_eq_true rfl, Nat.le_of_ble_eq_true rfl⟩) trivial hK hN hEx zw_nest_ok rfl hl.1 rfl (Nat.le_of_ble_eq_true rfl) dX8_run_4 ⟨Nat.le_of_ble_eq_true rfl, Nat.le_of_ble_eq_true rfl⟩ hS (fun ce q9 H1 locs1 hS1 hce hcv hcl => ?_)
  exact vx_out (fun x hx9 => (htab x hx9).elim) hlocks hce hcv hcl (fun t ht _ => ⟨(), trivial, rfl, hS1.F ht⟩) hS1.2.2 (Nat.le_of_ble_eq_true rfl) (Nat.le_of_ble_eq_true rfl)
set_option maxHeartbeats 4000000 in
set_option maxRecDepth 100000 in
theorem m_X8_ofBlockx (l : Launch) (hl9 : l.stackTraces = false) (dC : Nat → ClassId) (dI : Nat → Nat → Nat) (ca : Nat → ClassId) (sf : Nat) (ad : Nat → Nat) (ad2 : Nat → Nat) (M : zM) (N : zM) (a0 a1 : Int32) (h_n : ¬ z_ni a0 (M 0 10)) : vx_Met l yX8_ofBlock wsX8_ofBlock ({ frames := 7, cells := 1, slots := 6, locals := 103 }) (z_P9 (dC, dI) vwCl (zt ca) zw_nest [.ref sf, .int a0, .int a1] zFa (fun H => zT dC dI ca sf (ad 0) (ad2 0) H ∧ zW dC dI ca ad M H ∧ zW dC dI ca ad2 N H)) z_I9 (z_X9 zIOB) 1 6 zFa := by
  refine vx_ofW (cc := cX8_ofBlock) (maxL := 4) (ret := (some .int)) (by decide) rfl ?_
  intro p e s m args below meth c s₁ B9 hml htab hv
  obtain ⟨rfl, ⟨hT, hH, hG⟩, hK, hN, hEx⟩ := hv
  have hx := B9.exec
  have hb := B9.bytes
  have hr := B9.returns
  have hts := atoms_spec (ws := wsX8_ofBlock) B9.pre
  have hown : s.vm.findClass RX8 = some m.cls := findClass_of_methodNamed B9.named
  have hlocks := B9.notSynchronized
  have hS : va_S zFa s.heap s.heap [] := va_S.rf
  have hT : zT dC dI ca sf (ad 0) (ad2 0) s.heap := hT
  have hH : zW dC dI ca ad M s.heap := hH
  have hG : zW dC dI ca ad2 N s.heap := hG
  have hinX3 : ∀ w ∈ u_ws RX3 TX3 15, w ∈ wsX8_ofBlock := by decide +kernel
  have hinX8 : ∀ w ∈ u_ws RX8 TX8 2, w ∈ wsX8_ofBlock := by decide +kernel
  have hl := lv_entry ([.ref sf, .int a0, .int a1]) (n := 4) (Nat.le_of_ble_eq_true rfl)
  rw [lg_entry_eq]
  generalize (lg_sl ([.ref sf, .int a0, .int a1]) ++ List.replicate (4 - (lg_sl ([.ref sf, .int a0, .int a1])).length) Slot.unset).toArray = ls at hl ⊢
  have hl : lv_has ls 4 [(0, .ref sf), (1, .int a0), (2, .int a1)] := hl
  refine lv_iload_n hx hb dX8_ofBlock_0 rfl (lv_at hl 1 rfl) ?_
  refine lv_aload_n hx hb dX8_ofBlock_1 rfl (lv_at hl 0 rfl) ?_
  refine z_gS (k := 0) (v := ad 0) hx hb hts hinX8 hown hK hT (by decide) rfl (hts (.fieldLink RX8 10 "Steamfield" "land" "LSteamfield$Land;") (by decide +kernel)) (fun _ h9 => h9) dX8_ofBlock_2 ?_
  refine z_giN (D := (dC, dI)) (cl := vwCl) (C := RX3) (T := TX3) (N := 15) (ci := 3) (k := 10) hx hb hts hinX3 hown hK hH zk_0 (by decide) rfl (by decide) rfl (hN (.fieldLinkNest RX8 23 "Steamfield$Land" "blockCount" "I" "Steamfield") (by decide +kernel)) (fun _ h9 => h9) dX8_ofBlock_5 ?_
  refine lv_topi (fun x1 ex1 => ?_)
  refine z_cS9 (D := (dC, dI)) (cl := vwCl) (tys := zt ca) (nw := zw_nest) (As := [.int a0, .int x1]) (rest := []) ⟨hx, hb, hml, hown, hts⟩ (m_X8_needIndexx l hl9 dC dI ca (fun _ => True) a0 x1 (by rw [ex1]; exact h_n)) (cwS 2 hts gX8_ofBlock_X8_needIndex rfl rfl rfl (by decide +kernel) ⟨Nat.le_of_ble_eq_true rfl, Nat.le_of_ble_eq_true rfl⟩) trivial hK hN hEx zw_nest_ok rfl hl.1 rfl (Nat.le_of_ble_eq_true rfl) dX8_ofBlock_8 ⟨Nat.le_of_ble_eq_true rfl, Nat.le_of_ble_eq_true rfl⟩ hS (fun ce q9 H1 locs1 hS1 hce hcv hcl => ?_)
  exact vx_out (fun x hx9 => (htab x hx9).elim) hlocks hce hcv hcl (fun t ht _ => ⟨(), trivial, rfl, hS1.F ht⟩) hS1.2.2 (Nat.le_of_ble_eq_true rfl) (Nat.le_of_ble_eq_true rfl)
set_option maxHeartbeats 4000000 in
set_option maxRecDepth 100000 in
theorem m_X8_ofWellx (l : Launch) (hl9 : l.stackTraces = false) (dC : Nat → ClassId) (dI : Nat → Nat → Nat) (ca : Nat → ClassId) (sf : Nat) (ad : Nat → Nat) (ad2 : Nat → Nat) (M : zM) (N : zM) (a0 a1 : Int32) (h_n : ¬ z_ni a0 (M 0 12)) : vx_Met l yX8_ofWell wsX8_ofWell ({ frames := 7, cells := 1, slots := 6, locals := 103 }) (z_P9 (dC, dI) vwCl (zt ca) zw_nest [.ref sf, .int a0, .int a1] zFa (fun H => zT dC dI ca sf (ad 0) (ad2 0) H ∧ zW dC dI ca ad M H ∧ zW dC dI ca ad2 N H)) z_I9 (z_X9 zIOB) 1 6 zFa := by
  refine vx_ofW (cc := cX8_ofWell) (maxL := 4) (ret := (some .int)) (by decide) rfl ?_
  intro p e s m args below meth c s₁ B9 hml htab hv
  obtain ⟨rfl, ⟨hT, hH, hG⟩, hK, hN, hEx⟩ := hv
  have hx := B9.exec
  have hb := B9.bytes
  have hr := B9.returns
  have hts := atoms_spec (ws := wsX8_ofWell) B9.pre
  have hown : s.vm.findClass RX8 = some m.cls := findClass_of_methodNamed B9.named
  have hlocks := B9.notSynchronized
  have hS : va_S zFa s.heap s.heap [] := va_S.rf
  have hT : zT dC dI ca sf (ad 0) (ad2 0) s.heap := hT
  have hH : zW dC dI ca ad M s.heap := hH
  have hG : zW dC dI ca ad2 N s.heap := hG
  have hinX3 : ∀ w ∈ u_ws RX3 TX3 15, w ∈ wsX8_ofWell := by decide +kernel
  have hinX8 : ∀ w ∈ u_ws RX8 TX8 2, w ∈ wsX8_ofWell := by decide +kernel
  have hl := lv_entry ([.ref sf, .int a0, .int a1]) (n := 4) (Nat.le_of_ble_eq_true rfl)
  rw [lg_entry_eq]
  generalize (lg_sl ([.ref sf, .int a0, .int a1]) ++ List.replicate (4 - (lg_sl ([.ref sf, .int a0, .int a1])).length) Slot.unset).toArray = ls at hl ⊢
  have hl : lv_has ls 4 [(0, .ref sf), (1, .int a0), (2, .int a1)] := hl
  refine lv_iload_n hx hb dX8_ofWell_0 rfl (lv_at hl 1 rfl) ?_
  refine lv_aload_n hx hb dX8_ofWell_1 rfl (lv_at hl 0 rfl) ?_
  refine z_gS (k := 0) (v := ad 0) hx hb hts hinX8 hown hK hT (by decide) rfl (hts (.fieldLink RX8 10 "Steamfield" "land" "LSteamfield$Land;") (by decide +kernel)) (fun _ h9 => h9) dX8_ofWell_2 ?_
  refine z_giN (D := (dC, dI)) (cl := vwCl) (C := RX3) (T := TX3) (N := 15) (ci := 3) (k := 12) hx hb hts hinX3 hown hK hH zk_0 (by decide) rfl (by decide) rfl (hN (.fieldLinkNest RX8 99 "Steamfield$Land" "wellCount" "I" "Steamfield") (by decide +kernel)) (fun _ h9 => h9) dX8_ofWell_5 ?_
  refine lv_topi (fun x1 ex1 => ?_)
  refine z_cS9 (D := (dC, dI)) (cl := vwCl) (tys := zt ca) (nw := zw_nest) (As := [.int a0, .int x1]) (rest := []) ⟨hx, hb, hml, hown, hts⟩ (m_X8_needIndexx l hl9 dC dI ca (fun _ => True) a0 x1 (by rw [ex1]; exact h_n)) (cwS 2 hts gX8_ofWell_X8_needIndex rfl rfl rfl (by decide +kernel) ⟨Nat.le_of_ble_eq_true rfl, Nat.le_of_ble_eq_true rfl⟩) trivial hK hN hEx zw_nest_ok rfl hl.1 rfl (Nat.le_of_ble_eq_true rfl) dX8_ofWell_8 ⟨Nat.le_of_ble_eq_true rfl, Nat.le_of_ble_eq_true rfl⟩ hS (fun ce q9 H1 locs1 hS1 hce hcv hcl => ?_)
  exact vx_out (fun x hx9 => (htab x hx9).elim) hlocks hce hcv hcl (fun t ht _ => ⟨(), trivial, rfl, hS1.F ht⟩) hS1.2.2 (Nat.le_of_ble_eq_true rfl) (Nat.le_of_ble_eq_true rfl)
set_option maxHeartbeats 4000000 in
set_option maxRecDepth 100000 in
theorem m_X8_ofSpringx (l : Launch) (hl9 : l.stackTraces = false) (dC : Nat → ClassId) (dI : Nat → Nat → Nat) (ca : Nat → ClassId) (sf : Nat) (ad : Nat → Nat) (ad2 : Nat → Nat) (M : zM) (N : zM) (a0 a1 : Int32) (h_n : ¬ z_ni a0 (M 0 13)) : vx_Met l yX8_ofSpring wsX8_ofSpring ({ frames := 7, cells := 1, slots := 6, locals := 103 }) (z_P9 (dC, dI) vwCl (zt ca) zw_nest [.ref sf, .int a0, .int a1] zFa (fun H => zT dC dI ca sf (ad 0) (ad2 0) H ∧ zW dC dI ca ad M H ∧ zW dC dI ca ad2 N H)) z_I9 (z_X9 zIOB) 1 6 zFa := by
  refine vx_ofW (cc := cX8_ofSpring) (maxL := 4) (ret := (some .int)) (by decide) rfl ?_
  intro p e s m args below meth c s₁ B9 hml htab hv
  obtain ⟨rfl, ⟨hT, hH, hG⟩, hK, hN, hEx⟩ := hv
  have hx := B9.exec
  have hb := B9.bytes
  have hr := B9.returns
  have hts := atoms_spec (ws := wsX8_ofSpring) B9.pre
  have hown : s.vm.findClass RX8 = some m.cls := findClass_of_methodNamed B9.named
  have hlocks := B9.notSynchronized
  have hS : va_S zFa s.heap s.heap [] := va_S.rf
  have hT : zT dC dI ca sf (ad 0) (ad2 0) s.heap := hT
  have hH : zW dC dI ca ad M s.heap := hH
  have hG : zW dC dI ca ad2 N s.heap := hG
  have hinX3 : ∀ w ∈ u_ws RX3 TX3 15, w ∈ wsX8_ofSpring := by decide +kernel
  have hinX8 : ∀ w ∈ u_ws RX8 TX8 2, w ∈ wsX8_ofSpring := by decide +kernel
  have hl := lv_entry ([.ref sf, .int a0, .int a1]) (n := 4) (Nat.le_of_ble_eq_true rfl)
  rw [lg_entry_eq]
  generalize (lg_sl ([.ref sf, .int a0, .int a1]) ++ List.replicate (4 - (lg_sl ([.ref sf, .int a0, .int a1])).length) Slot.unset).toArray = ls at hl ⊢
  have hl : lv_has ls 4 [(0, .ref sf), (1, .int a0), (2, .int a1)] := hl
  refine lv_iload_n hx hb dX8_ofSpring_0 rfl (lv_at hl 1 rfl) ?_
  refine lv_aload_n hx hb dX8_ofSpring_1 rfl (lv_at hl 0 rfl) ?_
  refine z_gS (k := 0) (v := ad 0) hx hb hts hinX8 hown hK hT (by decide) rfl (hts (.fieldLink RX8 10 "Steamfield" "land" "LSteamfield$Land;") (by decide +kernel)) (fun _ h9 => h9) dX8_ofSpring_2 ?_
  refine z_giN (D := (dC, dI)) (cl := vwCl) (C := RX3) (T := TX3) (N := 15) (ci := 3) (k := 13) hx hb hts hinX3 hown hK hH zk_0 (by decide) rfl (by decide) rfl (hN (.fieldLinkNest RX8 115 "Steamfield$Land" "springCount" "I" "Steamfield") (by decide +kernel)) (fun _ h9 => h9) dX8_ofSpring_5 ?_
  refine lv_topi (fun x1 ex1 => ?_)
  refine z_cS9 (D := (dC, dI)) (cl := vwCl) (tys := zt ca) (nw := zw_nest) (As := [.int a0, .int x1]) (rest := []) ⟨hx, hb, hml, hown, hts⟩ (m_X8_needIndexx l hl9 dC dI ca (fun _ => True) a0 x1 (by rw [ex1]; exact h_n)) (cwS 2 hts gX8_ofSpring_X8_needIndex rfl rfl rfl (by decide +kernel) ⟨Nat.le_of_ble_eq_true rfl, Nat.le_of_ble_eq_true rfl⟩) trivial hK hN hEx zw_nest_ok rfl hl.1 rfl (Nat.le_of_ble_eq_true rfl) dX8_ofSpring_8 ⟨Nat.le_of_ble_eq_true rfl, Nat.le_of_ble_eq_true rfl⟩ hS (fun ce q9 H1 locs1 hS1 hce hcv hcl => ?_)
  exact vx_out (fun x hx9 => (htab x hx9).elim) hlocks hce hcv hcl (fun t ht _ => ⟨(), trivial, rfl, hS1.F ht⟩) hS1.2.2 (Nat.le_of_ble_eq_true rfl) (Nat.le_of_ble_eq_true rfl)
set_option maxHeartbeats 4000000 in
set_option maxRecDepth 100000 in
theorem m_X8_ofFacex (l : Launch) (hl9 : l.stackTraces = false) (dC : Nat → ClassId) (dI : Nat → Nat → Nat) (ca : Nat → ClassId) (sf : Nat) (ad : Nat → Nat) (ad2 : Nat → Nat) (M : zM) (N : zM) (a0 a1 : Int32) (h_n : ¬ z_ni a0 (M 0 11)) : vx_Met l yX8_ofFace wsX8_ofFace ({ frames := 7, cells := 1, slots := 6, locals := 103 }) (z_P9 (dC, dI) vwCl (zt ca) zw_nest [.ref sf, .int a0, .int a1] zFa (fun H => zT dC dI ca sf (ad 0) (ad2 0) H ∧ zW dC dI ca ad M H ∧ zW dC dI ca ad2 N H)) z_I9 (z_X9 zIOB) 1 6 zFa := by
  refine vx_ofW (cc := cX8_ofFace) (maxL := 3) (ret := (some .int)) (by decide) rfl ?_
  intro p e s m args below meth c s₁ B9 hml htab hv
  obtain ⟨rfl, ⟨hT, hH, hG⟩, hK, hN, hEx⟩ := hv
  have hx := B9.exec
  have hb := B9.bytes
  have hr := B9.returns
  have hts := atoms_spec (ws := wsX8_ofFace) B9.pre
  have hown : s.vm.findClass RX8 = some m.cls := findClass_of_methodNamed B9.named
  have hlocks := B9.notSynchronized
  have hS : va_S zFa s.heap s.heap [] := va_S.rf
  have hT : zT dC dI ca sf (ad 0) (ad2 0) s.heap := hT
  have hH : zW dC dI ca ad M s.heap := hH
  have hG : zW dC dI ca ad2 N s.heap := hG
  have hinX3 : ∀ w ∈ u_ws RX3 TX3 15, w ∈ wsX8_ofFace := by decide +kernel
  have hinX8 : ∀ w ∈ u_ws RX8 TX8 2, w ∈ wsX8_ofFace := by decide +kernel
  have hl := lv_entry ([.ref sf, .int a0, .int a1]) (n := 3) (Nat.le_of_ble_eq_true rfl)
  rw [lg_entry_eq]
  generalize (lg_sl ([.ref sf, .int a0, .int a1]) ++ List.replicate (3 - (lg_sl ([.ref sf, .int a0, .int a1])).length) Slot.unset).toArray = ls at hl ⊢
  have hl : lv_has ls 3 [(0, .ref sf), (1, .int a0), (2, .int a1)] := hl
  refine lv_iload_n hx hb dX8_ofFace_0 rfl (lv_at hl 1 rfl) ?_
  refine lv_aload_n hx hb dX8_ofFace_1 rfl (lv_at hl 0 rfl) ?_
  refine z_gS (k := 0) (v := ad 0) hx hb hts hinX8 hown hK hT (by decide) rfl (hts (.fieldLink RX8 10 "Steamfield" "land" "LSteamfield$Land;") (by decide +kernel)) (fun _ h9 => h9) dX8_ofFace_2 ?_
  refine z_giN (D := (dC, dI)) (cl := vwCl) (C := RX3) (T := TX3) (N := 15) (ci := 3) (k := 11) hx hb hts hinX3 hown hK hH zk_0 (by decide) rfl (by decide) rfl (hN (.fieldLinkNest RX8 81 "Steamfield$Land" "faceCount" "I" "Steamfield") (by decide +kernel)) (fun _ h9 => h9) dX8_ofFace_5 ?_
  refine lv_topi (fun x1 ex1 => ?_)
  refine z_cS9 (D := (dC, dI)) (cl := vwCl) (tys := zt ca) (nw := zw_nest) (As := [.int a0, .int x1]) (rest := []) ⟨hx, hb, hml, hown, hts⟩ (m_X8_needIndexx l hl9 dC dI ca (fun _ => True) a0 x1 (by rw [ex1]; exact h_n)) (cwS 2 hts gX8_ofFace_X8_needIndex rfl rfl rfl (by decide +kernel) ⟨Nat.le_of_ble_eq_true rfl, Nat.le_of_ble_eq_true rfl⟩) trivial hK hN hEx zw_nest_ok rfl hl.1 rfl (Nat.le_of_ble_eq_true rfl) dX8_ofFace_8 ⟨Nat.le_of_ble_eq_true rfl, Nat.le_of_ble_eq_true rfl⟩ hS (fun ce q9 H1 locs1 hS1 hce hcv hcl => ?_)
  exact vx_out (fun x hx9 => (htab x hx9).elim) hlocks hce hcv hcl (fun t ht _ => ⟨(), trivial, rfl, hS1.F ht⟩) hS1.2.2 (Nat.le_of_ble_eq_true rfl) (Nat.le_of_ble_eq_true rfl)
set_option maxHeartbeats 4000000 in
set_option maxRecDepth 100000 in
theorem m_X8_pondx (l : Launch) (hl9 : l.stackTraces = false) (dC : Nat → ClassId) (dI : Nat → Nat → Nat) (ca : Nat → ClassId) (sf : Nat) (ad : Nat → Nat) (ad2 : Nat → Nat) (M : zM) (N : zM) (a0 : Int32) (h_n : ¬ z_rg a0 0 3) : vx_Met l yX8_pond wsX8_pond ({ frames := 7, cells := 1, slots := 6, locals := 104 }) (z_P9 (dC, dI) vwCl (zt ca) zw_nest [.ref sf, .int a0] zFa (fun H => zT dC dI ca sf (ad 0) (ad2 0) H ∧ zW dC dI ca ad M H ∧ zW dC dI ca ad2 N H)) z_I9 (z_X9 zIAE) 1 6 zFa := by
  refine vx_ofW (cc := cX8_pond) (maxL := 2) (ret := (some .int)) (by decide) rfl ?_
  intro p e s m args below meth c s₁ B9 hml htab hv
  obtain ⟨rfl, ⟨hT, hH, hG⟩, hK, hN, hEx⟩ := hv
  have hx := B9.exec
  have hb := B9.bytes
  have hr := B9.returns
  have hts := atoms_spec (ws := wsX8_pond) B9.pre
  have hown : s.vm.findClass RX8 = some m.cls := findClass_of_methodNamed B9.named
  have hlocks := B9.notSynchronized
  have hS : va_S zFa s.heap s.heap [] := va_S.rf
  have hT : zT dC dI ca sf (ad 0) (ad2 0) s.heap := hT
  have hH : zW dC dI ca ad M s.heap := hH
  have hG : zW dC dI ca ad2 N s.heap := hG
  have hl := lv_entry ([.ref sf, .int a0]) (n := 2) (Nat.le_of_ble_eq_true rfl)
  rw [lg_entry_eq]
  generalize (lg_sl ([.ref sf, .int a0]) ++ List.replicate (2 - (lg_sl ([.ref sf, .int a0])).length) Slot.unset).toArray = ls at hl ⊢
  have hl : lv_has ls 2 [(0, .ref sf), (1, .int a0)] := hl
  refine lv_iload_n hx hb dX8_pond_0 rfl (lv_at hl 1 rfl) ?_
  refine lv_iconst (v := 0) hx hb dX8_pond_1 (by decide) ?_
  refine lv_iconst (v := 3) hx hb dX8_pond_2 (by decide) ?_
  refine z_cS9 (D := (dC, dI)) (cl := vwCl) (tys := zt ca) (nw := zw_nest) (As := [.int a0, .int 0, .int 3]) (rest := []) ⟨hx, hb, hml, hown, hts⟩ (m_X8_needRangex l hl9 dC dI ca (fun _ => True) a0 0 3 h_n) (cwS 3 hts gX8_pond_X8_needRange rfl rfl rfl (by decide +kernel) ⟨Nat.le_of_ble_eq_true rfl, Nat.le_of_ble_eq_true rfl⟩) trivial hK hN hEx zw_nest_ok rfl hl.1 rfl (Nat.le_of_ble_eq_true rfl) dX8_pond_3 ⟨Nat.le_of_ble_eq_true rfl, Nat.le_of_ble_eq_true rfl⟩ hS (fun ce q9 H1 locs1 hS1 hce hcv hcl => ?_)
  exact vx_out (fun x hx9 => (htab x hx9).elim) hlocks hce hcv hcl (fun t ht _ => ⟨(), trivial, rfl, hS1.F ht⟩) hS1.2.2 (Nat.le_of_ble_eq_true rfl) (Nat.le_of_ble_eq_true rfl)
set_option maxHeartbeats 4000000 in
set_option maxRecDepth 100000 in
theorem m_X8_ofOwnerx (l : Launch) (hl9 : l.stackTraces = false) (dC : Nat → ClassId) (dI : Nat → Nat → Nat) (ca : Nat → ClassId) (sf : Nat) (ad : Nat → Nat) (ad2 : Nat → Nat) (M : zM) (N : zM) (a0 a1 : Int32) (h_n : ¬ z_ni a0 2) : vx_Met l yX8_ofOwner wsX8_ofOwner ({ frames := 7, cells := 1, slots := 6, locals := 103 }) (z_P9 (dC, dI) vwCl (zt ca) zw_nest [.ref sf, .int a0, .int a1] zFa (fun H => zT dC dI ca sf (ad 0) (ad2 0) H ∧ zW dC dI ca ad M H ∧ zW dC dI ca ad2 N H)) z_I9 (z_X9 zIOB) 1 6 zFa := by
  refine vx_ofW (cc := cX8_ofOwner) (maxL := 3) (ret := (some .int)) (by decide) rfl ?_
  intro p e s m args below meth c s₁ B9 hml htab hv
  obtain ⟨rfl, ⟨hT, hH, hG⟩, hK, hN, hEx⟩ := hv
  have hx := B9.exec
  have hb := B9.bytes
  have hr := B9.returns
  have hts := atoms_spec (ws := wsX8_ofOwner) B9.pre
  have hown : s.vm.findClass RX8 = some m.cls := findClass_of_methodNamed B9.named
  have hlocks := B9.notSynchronized
  have hS : va_S zFa s.heap s.heap [] := va_S.rf
  have hT : zT dC dI ca sf (ad 0) (ad2 0) s.heap := hT
  have hH : zW dC dI ca ad M s.heap := hH
  have hG : zW dC dI ca ad2 N s.heap := hG
  have hl := lv_entry ([.ref sf, .int a0, .int a1]) (n := 3) (Nat.le_of_ble_eq_true rfl)
  rw [lg_entry_eq]
  generalize (lg_sl ([.ref sf, .int a0, .int a1]) ++ List.replicate (3 - (lg_sl ([.ref sf, .int a0, .int a1])).length) Slot.unset).toArray = ls at hl ⊢
  have hl : lv_has ls 3 [(0, .ref sf), (1, .int a0), (2, .int a1)] := hl
  refine lv_iload_n hx hb dX8_ofOwner_0 rfl (lv_at hl 1 rfl) ?_
  refine lv_iconst (v := 2) hx hb dX8_ofOwner_1 (by decide) ?_
  refine z_cS9 (D := (dC, dI)) (cl := vwCl) (tys := zt ca) (nw := zw_nest) (As := [.int a0, .int 2]) (rest := []) ⟨hx, hb, hml, hown, hts⟩ (m_X8_needIndexx l hl9 dC dI ca (fun _ => True) a0 2 h_n) (cwS 2 hts gX8_ofOwner_X8_needIndex rfl rfl rfl (by decide +kernel) ⟨Nat.le_of_ble_eq_true rfl, Nat.le_of_ble_eq_true rfl⟩) trivial hK hN hEx zw_nest_ok rfl hl.1 rfl (Nat.le_of_ble_eq_true rfl) dX8_ofOwner_2 ⟨Nat.le_of_ble_eq_true rfl, Nat.le_of_ble_eq_true rfl⟩ hS (fun ce q9 H1 locs1 hS1 hce hcv hcl => ?_)
  exact vx_out (fun x hx9 => (htab x hx9).elim) hlocks hce hcv hcl (fun t ht _ => ⟨(), trivial, rfl, hS1.F ht⟩) hS1.2.2 (Nat.le_of_ble_eq_true rfl) (Nat.le_of_ble_eq_true rfl)
set_option maxHeartbeats 4000000 in
set_option maxRecDepth 100000 in
theorem m_X8_massx (l : Launch) (hl9 : l.stackTraces = false) (dC : Nat → ClassId) (dI : Nat → Nat → Nat) (ca : Nat → ClassId) (sf : Nat) (ad : Nat → Nat) (ad2 : Nat → Nat) (M : zM) (N : zM) (a0 : Int32) (h_n : ¬ z_rg a0 0 6) : vx_Met l yX8_mass wsX8_mass ({ frames := 7, cells := 1, slots := 6, locals := 104 }) (z_P9 (dC, dI) vwCl (zt ca) zw_nest [.ref sf, .int a0] zFa (fun H => zT dC dI ca sf (ad 0) (ad2 0) H ∧ zW dC dI ca ad M H ∧ zW dC dI ca ad2 N H)) z_I9 (z_X9 zIAE) 1 6 zFa := by
  refine vx_ofW (cc := cX8_mass) (maxL := 2) (ret := (some .int)) (by decide) rfl ?_
  intro p e s m args below meth c s₁ B9 hml htab hv
  obtain ⟨rfl, ⟨hT, hH, hG⟩, hK, hN, hEx⟩ := hv
  have hx := B9.exec
  have hb := B9.bytes
  have hr := B9.returns
  have hts := atoms_spec (ws := wsX8_mass) B9.pre
  have hown : s.vm.findClass RX8 = some m.cls := findClass_of_methodNamed B9.named
  have hlocks := B9.notSynchronized
  have hS : va_S zFa s.heap s.heap [] := va_S.rf
  have hT : zT dC dI ca sf (ad 0) (ad2 0) s.heap := hT
  have hH : zW dC dI ca ad M s.heap := hH
  have hG : zW dC dI ca ad2 N s.heap := hG
  have hl := lv_entry ([.ref sf, .int a0]) (n := 2) (Nat.le_of_ble_eq_true rfl)
  rw [lg_entry_eq]
  generalize (lg_sl ([.ref sf, .int a0]) ++ List.replicate (2 - (lg_sl ([.ref sf, .int a0])).length) Slot.unset).toArray = ls at hl ⊢
  have hl : lv_has ls 2 [(0, .ref sf), (1, .int a0)] := hl
  refine lv_iload_n hx hb dX8_mass_0 rfl (lv_at hl 1 rfl) ?_
  refine lv_iconst (v := 0) hx hb dX8_mass_1 (by decide) ?_
  refine lv_bipush (v := 6) hx hb dX8_mass_2 (by decide) ?_
  refine z_cS9 (D := (dC, dI)) (cl := vwCl) (tys := zt ca) (nw := zw_nest) (As := [.int a0, .int 0, .int 6]) (rest := []) ⟨hx, hb, hml, hown, hts⟩ (m_X8_needRangex l hl9 dC dI ca (fun _ => True) a0 0 6 h_n) (cwS 3 hts gX8_mass_X8_needRange rfl rfl rfl (by decide +kernel) ⟨Nat.le_of_ble_eq_true rfl, Nat.le_of_ble_eq_true rfl⟩) trivial hK hN hEx zw_nest_ok rfl hl.1 rfl (Nat.le_of_ble_eq_true rfl) dX8_mass_4 ⟨Nat.le_of_ble_eq_true rfl, Nat.le_of_ble_eq_true rfl⟩ hS (fun ce q9 H1 locs1 hS1 hce hcv hcl => ?_)
  exact vx_out (fun x hx9 => (htab x hx9).elim) hlocks hce hcv hcl (fun t ht _ => ⟨(), trivial, rfl, hS1.F ht⟩) hS1.2.2 (Nat.le_of_ble_eq_true rfl) (Nat.le_of_ble_eq_true rfl)
set_option maxHeartbeats 4000000 in
set_option maxRecDepth 100000 in
theorem m_X8_manyx (l : Launch) (hl9 : l.stackTraces = false) (dC : Nat → ClassId) (dI : Nat → Nat → Nat) (ca : Nat → ClassId) (sf : Nat) (ad : Nat → Nat) (ad2 : Nat → Nat) (M : zM) (N : zM) (a0 : Int32) (h_n : ¬ z_rg a0 0 12) : vx_Met l yX8_many wsX8_many ({ frames := 7, cells := 1, slots := 6, locals := 104 }) (z_P9 (dC, dI) vwCl (zt ca) zw_nest [.ref sf, .int a0] zFa (fun H => zT dC dI ca sf (ad 0) (ad2 0) H ∧ zW dC dI ca ad M H ∧ zW dC dI ca ad2 N H)) z_I9 (z_X9 zIAE) 1 6 zFa := by
  refine vx_ofW (cc := cX8_many) (maxL := 2) (ret := (some .int)) (by decide) rfl ?_
  intro p e s m args below meth c s₁ B9 hml htab hv
  obtain ⟨rfl, ⟨hT, hH, hG⟩, hK, hN, hEx⟩ := hv
  have hx := B9.exec
  have hb := B9.bytes
  have hr := B9.returns
  have hts := atoms_spec (ws := wsX8_many) B9.pre
  have hown : s.vm.findClass RX8 = some m.cls := findClass_of_methodNamed B9.named
  have hlocks := B9.notSynchronized
  have hS : va_S zFa s.heap s.heap [] := va_S.rf
  have hT : zT dC dI ca sf (ad 0) (ad2 0) s.heap := hT
  have hH : zW dC dI ca ad M s.heap := hH
  have hG : zW dC dI ca ad2 N s.heap := hG
  have hl := lv_entry ([.ref sf, .int a0]) (n := 2) (Nat.le_of_ble_eq_true rfl)
  rw [lg_entry_eq]
  generalize (lg_sl ([.ref sf, .int a0]) ++ List.replicate (2 - (lg_sl ([.ref sf, .int a0])).length) Slot.unset).toArray = ls at hl ⊢
  have hl : lv_has ls 2 [(0, .ref sf), (1, .int a0)] := hl
  refine lv_iload_n hx hb dX8_many_0 rfl (lv_at hl 1 rfl) ?_
  refine lv_iconst (v := 0) hx hb dX8_many_1 (by decide) ?_
  refine lv_bipush (v := 12) hx hb dX8_many_2 (by decide) ?_
  refine z_cS9 (D := (dC, dI)) (cl := vwCl) (tys := zt ca) (nw := zw_nest) (As := [.int a0, .int 0, .int 12]) (rest := []) ⟨hx, hb, hml, hown, hts⟩ (m_X8_needRangex l hl9 dC dI ca (fun _ => True) a0 0 12 h_n) (cwS 3 hts gX8_many_X8_needRange rfl rfl rfl (by decide +kernel) ⟨Nat.le_of_ble_eq_true rfl, Nat.le_of_ble_eq_true rfl⟩) trivial hK hN hEx zw_nest_ok rfl hl.1 rfl (Nat.le_of_ble_eq_true rfl) dX8_many_4 ⟨Nat.le_of_ble_eq_true rfl, Nat.le_of_ble_eq_true rfl⟩ hS (fun ce q9 H1 locs1 hS1 hce hcv hcl => ?_)
  exact vx_out (fun x hx9 => (htab x hx9).elim) hlocks hce hcv hcl (fun t ht _ => ⟨(), trivial, rfl, hS1.F ht⟩) hS1.2.2 (Nat.le_of_ble_eq_true rfl) (Nat.le_of_ble_eq_true rfl)
set_option maxHeartbeats 4000000 in
set_option maxRecDepth 100000 in
theorem m_X8_wouldGivex (l : Launch) (hl9 : l.stackTraces = false) (dC : Nat → ClassId) (dI : Nat → Nat → Nat) (ca : Nat → ClassId) (sf : Nat) (ad : Nat → Nat) (ad2 : Nat → Nat) (M : zM) (N : zM) (a0 : Int32) (h_n : ¬ z_rg a0 1 30) : vx_Met l yX8_wouldGive wsX8_wouldGive ({ frames := 7, cells := 1, slots := 6, locals := 104 }) (z_P9 (dC, dI) vwCl (zt ca) zw_nest [.ref sf, .int a0] zFa (fun H => zT dC dI ca sf (ad 0) (ad2 0) H ∧ zW dC dI ca ad M H ∧ zW dC dI ca ad2 N H)) z_I9 (z_X9 zIAE) 1 6 zFa := by
  refine vx_ofW (cc := cX8_wouldGive) (maxL := 2) (ret := (some .int)) (by decide) rfl ?_
  intro p e s m args below meth c s₁ B9 hml htab hv
  obtain ⟨rfl, ⟨hT, hH, hG⟩, hK, hN, hEx⟩ := hv
  have hx := B9.exec
  have hb := B9.bytes
  have hr := B9.returns
  have hts := atoms_spec (ws := wsX8_wouldGive) B9.pre
  have hown : s.vm.findClass RX8 = some m.cls := findClass_of_methodNamed B9.named
  have hlocks := B9.notSynchronized
  have hS : va_S zFa s.heap s.heap [] := va_S.rf
  have hT : zT dC dI ca sf (ad 0) (ad2 0) s.heap := hT
  have hH : zW dC dI ca ad M s.heap := hH
  have hG : zW dC dI ca ad2 N s.heap := hG
  have hl := lv_entry ([.ref sf, .int a0]) (n := 2) (Nat.le_of_ble_eq_true rfl)
  rw [lg_entry_eq]
  generalize (lg_sl ([.ref sf, .int a0]) ++ List.replicate (2 - (lg_sl ([.ref sf, .int a0])).length) Slot.unset).toArray = ls at hl ⊢
  have hl : lv_has ls 2 [(0, .ref sf), (1, .int a0)] := hl
  refine lv_iload_n hx hb dX8_wouldGive_0 rfl (lv_at hl 1 rfl) ?_
  refine lv_iconst (v := 1) hx hb dX8_wouldGive_1 (by decide) ?_
  refine lv_bipush (v := 30) hx hb dX8_wouldGive_2 (by decide) ?_
  refine z_cS9 (D := (dC, dI)) (cl := vwCl) (tys := zt ca) (nw := zw_nest) (As := [.int a0, .int 1, .int 30]) (rest := []) ⟨hx, hb, hml, hown, hts⟩ (m_X8_needRangex l hl9 dC dI ca (fun _ => True) a0 1 30 h_n) (cwS 3 hts gX8_wouldGive_X8_needRange rfl rfl rfl (by decide +kernel) ⟨Nat.le_of_ble_eq_true rfl, Nat.le_of_ble_eq_true rfl⟩) trivial hK hN hEx zw_nest_ok rfl hl.1 rfl (Nat.le_of_ble_eq_true rfl) dX8_wouldGive_4 ⟨Nat.le_of_ble_eq_true rfl, Nat.le_of_ble_eq_true rfl⟩ hS (fun ce q9 H1 locs1 hS1 hce hcv hcl => ?_)
  exact vx_out (fun x hx9 => (htab x hx9).elim) hlocks hce hcv hcl (fun t ht _ => ⟨(), trivial, rfl, hS1.F ht⟩) hS1.2.2 (Nat.le_of_ble_eq_true rfl) (Nat.le_of_ble_eq_true rfl)
set_option maxHeartbeats 4000000 in
set_option maxRecDepth 100000 in
theorem m_X8_coldInx (l : Launch) (hl9 : l.stackTraces = false) (dC : Nat → ClassId) (dI : Nat → Nat → Nat) (ca : Nat → ClassId) (sf : Nat) (ad : Nat → Nat) (ad2 : Nat → Nat) (M : zM) (N : zM) (a0 a1 : Int32) (h_n : ¬ z_ni a0 (M 0 12)) : vx_Met l yX8_coldIn wsX8_coldIn ({ frames := 7, cells := 1, slots := 6, locals := 103 }) (z_P9 (dC, dI) vwCl (zt ca) zw_nest [.ref sf, .int a0, .int a1] zFa (fun H => zT dC dI ca sf (ad 0) (ad2 0) H ∧ zW dC dI ca ad M H ∧ zW dC dI ca ad2 N H)) z_I9 (z_X9 zIOB) 1 6 zFa := by
  refine vx_ofW (cc := cX8_coldIn) (maxL := 5) (ret := (some .int)) (by decide) rfl ?_
  intro p e s m args below meth c s₁ B9 hml htab hv
  obtain ⟨rfl, ⟨hT, hH, hG⟩, hK, hN, hEx⟩ := hv
  have hx := B9.exec
  have hb := B9.bytes
  have hr := B9.returns
  have hts := atoms_spec (ws := wsX8_coldIn) B9.pre
  have hown : s.vm.findClass RX8 = some m.cls := findClass_of_methodNamed B9.named
  have hlocks := B9.notSynchronized
  have hS : va_S zFa s.heap s.heap [] := va_S.rf
  have hT : zT dC dI ca sf (ad 0) (ad2 0) s.heap := hT
  have hH : zW dC dI ca ad M s.heap := hH
  have hG : zW dC dI ca ad2 N s.heap := hG
  have hinX3 : ∀ w ∈ u_ws RX3 TX3 15, w ∈ wsX8_coldIn := by decide +kernel
  have hinX8 : ∀ w ∈ u_ws RX8 TX8 2, w ∈ wsX8_coldIn := by decide +kernel
  have hl := lv_entry ([.ref sf, .int a0, .int a1]) (n := 5) (Nat.le_of_ble_eq_true rfl)
  rw [lg_entry_eq]
  generalize (lg_sl ([.ref sf, .int a0, .int a1]) ++ List.replicate (5 - (lg_sl ([.ref sf, .int a0, .int a1])).length) Slot.unset).toArray = ls at hl ⊢
  have hl : lv_has ls 5 [(0, .ref sf), (1, .int a0), (2, .int a1)] := hl
  refine lv_iload_n hx hb dX8_coldIn_0 rfl (lv_at hl 1 rfl) ?_
  refine lv_aload_n hx hb dX8_coldIn_1 rfl (lv_at hl 0 rfl) ?_
  refine z_gS (k := 0) (v := ad 0) hx hb hts hinX8 hown hK hT (by decide) rfl (hts (.fieldLink RX8 10 "Steamfield" "land" "LSteamfield$Land;") (by decide +kernel)) (fun _ h9 => h9) dX8_coldIn_2 ?_
  refine z_giN (D := (dC, dI)) (cl := vwCl) (C := RX3) (T := TX3) (N := 15) (ci := 3) (k := 12) hx hb hts hinX3 hown hK hH zk_0 (by decide) rfl (by decide) rfl (hN (.fieldLinkNest RX8 99 "Steamfield$Land" "wellCount" "I" "Steamfield") (by decide +kernel)) (fun _ h9 => h9) dX8_coldIn_5 ?_
  refine lv_topi (fun x1 ex1 => ?_)
  refine z_cS9 (D := (dC, dI)) (cl := vwCl) (tys := zt ca) (nw := zw_nest) (As := [.int a0, .int x1]) (rest := []) ⟨hx, hb, hml, hown, hts⟩ (m_X8_needIndexx l hl9 dC dI ca (fun _ => True) a0 x1 (by rw [ex1]; exact h_n)) (cwS 2 hts gX8_coldIn_X8_needIndex rfl rfl rfl (by decide +kernel) ⟨Nat.le_of_ble_eq_true rfl, Nat.le_of_ble_eq_true rfl⟩) trivial hK hN hEx zw_nest_ok rfl hl.1 rfl (Nat.le_of_ble_eq_true rfl) dX8_coldIn_8 ⟨Nat.le_of_ble_eq_true rfl, Nat.le_of_ble_eq_true rfl⟩ hS (fun ce q9 H1 locs1 hS1 hce hcv hcl => ?_)
  exact vx_out (fun x hx9 => (htab x hx9).elim) hlocks hce hcv hcl (fun t ht _ => ⟨(), trivial, rfl, hS1.F ht⟩) hS1.2.2 (Nat.le_of_ble_eq_true rfl) (Nat.le_of_ble_eq_true rfl)
set_option maxHeartbeats 4000000 in
set_option maxRecDepth 100000 in
theorem m_X8_causedByx (l : Launch) (hl9 : l.stackTraces = false) (dC : Nat → ClassId) (dI : Nat → Nat → Nat) (ca : Nat → ClassId) (sf : Nat) (ad : Nat → Nat) (ad2 : Nat → Nat) (M : zM) (N : zM) (a0 a1 a2 : Int32) (h_n : ¬ z_ni a0 (M 0 13)) : vx_Met l yX8_causedBy wsX8_causedBy ({ frames := 7, cells := 1, slots := 6, locals := 103 }) (z_P9 (dC, dI) vwCl (zt ca) zw_nest [.ref sf, .int a0, .int a1, .int a2] zFa (fun H => zT dC dI ca sf (ad 0) (ad2 0) H ∧ zW dC dI ca ad M H ∧ zW dC dI ca ad2 N H)) z_I9 (z_X9 zIOB) 1 6 zFa := by
  refine vx_ofW (cc := cX8_causedBy) (maxL := 5) (ret := (some .int)) (by decide) rfl ?_
  intro p e s m args below meth c s₁ B9 hml htab hv
  obtain ⟨rfl, ⟨hT, hH, hG⟩, hK, hN, hEx⟩ := hv
  have hx := B9.exec
  have hb := B9.bytes
  have hr := B9.returns
  have hts := atoms_spec (ws := wsX8_causedBy) B9.pre
  have hown : s.vm.findClass RX8 = some m.cls := findClass_of_methodNamed B9.named
  have hlocks := B9.notSynchronized
  have hS : va_S zFa s.heap s.heap [] := va_S.rf
  have hT : zT dC dI ca sf (ad 0) (ad2 0) s.heap := hT
  have hH : zW dC dI ca ad M s.heap := hH
  have hG : zW dC dI ca ad2 N s.heap := hG
  have hinX3 : ∀ w ∈ u_ws RX3 TX3 15, w ∈ wsX8_causedBy := by decide +kernel
  have hinX8 : ∀ w ∈ u_ws RX8 TX8 2, w ∈ wsX8_causedBy := by decide +kernel
  have hl := lv_entry ([.ref sf, .int a0, .int a1, .int a2]) (n := 5) (Nat.le_of_ble_eq_true rfl)
  rw [lg_entry_eq]
  generalize (lg_sl ([.ref sf, .int a0, .int a1, .int a2]) ++ List.replicate (5 - (lg_sl ([.ref sf, .int a0, .int a1, .int a2])).length) Slot.unset).toArray = ls at hl ⊢
  have hl : lv_has ls 5 [(0, .ref sf), (1, .int a0), (2, .int a1), (3, .int a2)] := hl
  refine lv_iload_n hx hb dX8_causedBy_0 rfl (lv_at hl 1 rfl) ?_
  refine lv_aload_n hx hb dX8_causedBy_1 rfl (lv_at hl 0 rfl) ?_
  refine z_gS (k := 0) (v := ad 0) hx hb hts hinX8 hown hK hT (by decide) rfl (hts (.fieldLink RX8 10 "Steamfield" "land" "LSteamfield$Land;") (by decide +kernel)) (fun _ h9 => h9) dX8_causedBy_2 ?_
  refine z_giN (D := (dC, dI)) (cl := vwCl) (C := RX3) (T := TX3) (N := 15) (ci := 3) (k := 13) hx hb hts hinX3 hown hK hH zk_0 (by decide) rfl (by decide) rfl (hN (.fieldLinkNest RX8 115 "Steamfield$Land" "springCount" "I" "Steamfield") (by decide +kernel)) (fun _ h9 => h9) dX8_causedBy_5 ?_
  refine lv_topi (fun x1 ex1 => ?_)
  refine z_cS9 (D := (dC, dI)) (cl := vwCl) (tys := zt ca) (nw := zw_nest) (As := [.int a0, .int x1]) (rest := []) ⟨hx, hb, hml, hown, hts⟩ (m_X8_needIndexx l hl9 dC dI ca (fun _ => True) a0 x1 (by rw [ex1]; exact h_n)) (cwS 2 hts gX8_causedBy_X8_needIndex rfl rfl rfl (by decide +kernel) ⟨Nat.le_of_ble_eq_true rfl, Nat.le_of_ble_eq_true rfl⟩) trivial hK hN hEx zw_nest_ok rfl hl.1 rfl (Nat.le_of_ble_eq_true rfl) dX8_causedBy_8 ⟨Nat.le_of_ble_eq_true rfl, Nat.le_of_ble_eq_true rfl⟩ hS (fun ce q9 H1 locs1 hS1 hce hcv hcl => ?_)
  exact vx_out (fun x hx9 => (htab x hx9).elim) hlocks hce hcv hcl (fun t ht _ => ⟨(), trivial, rfl, hS1.F ht⟩) hS1.2.2 (Nat.le_of_ble_eq_true rfl) (Nat.le_of_ble_eq_true rfl)
set_option maxHeartbeats 4000000 in
set_option maxRecDepth 100000 in
theorem m_X8_bestValvesx (l : Launch) (hl9 : l.stackTraces = false) (dC : Nat → ClassId) (dI : Nat → Nat → Nat) (ca : Nat → ClassId) (sf : Nat) (ad : Nat → Nat) (ad2 : Nat → Nat) (M : zM) (N : zM) (a0 : Int32) (h_n : ¬ z_rg a0 1 12) : vx_Met l yX8_bestValves wsX8_bestValves ({ frames := 7, cells := 1, slots := 6, locals := 104 }) (z_P9 (dC, dI) vwCl (zt ca) zw_nest [.ref sf, .int a0] zFa (fun H => zT dC dI ca sf (ad 0) (ad2 0) H ∧ zW dC dI ca ad M H ∧ zW dC dI ca ad2 N H)) z_I9 (z_X9 zIAE) 1 6 zFa := by
  refine vx_ofW (cc := cX8_bestValves) (maxL := 9) (ret := (some .int)) (by decide) rfl ?_
  intro p e s m args below meth c s₁ B9 hml htab hv
  obtain ⟨rfl, ⟨hT, hH, hG⟩, hK, hN, hEx⟩ := hv
  have hx := B9.exec
  have hb := B9.bytes
  have hr := B9.returns
  have hts := atoms_spec (ws := wsX8_bestValves) B9.pre
  have hown : s.vm.findClass RX8 = some m.cls := findClass_of_methodNamed B9.named
  have hlocks := B9.notSynchronized
  have hS : va_S zFa s.heap s.heap [] := va_S.rf
  have hT : zT dC dI ca sf (ad 0) (ad2 0) s.heap := hT
  have hH : zW dC dI ca ad M s.heap := hH
  have hG : zW dC dI ca ad2 N s.heap := hG
  have hl := lv_entry ([.ref sf, .int a0]) (n := 9) (Nat.le_of_ble_eq_true rfl)
  rw [lg_entry_eq]
  generalize (lg_sl ([.ref sf, .int a0]) ++ List.replicate (9 - (lg_sl ([.ref sf, .int a0])).length) Slot.unset).toArray = ls at hl ⊢
  have hl : lv_has ls 9 [(0, .ref sf), (1, .int a0)] := hl
  refine lv_iload_n hx hb dX8_bestValves_0 rfl (lv_at hl 1 rfl) ?_
  refine lv_iconst (v := 1) hx hb dX8_bestValves_1 (by decide) ?_
  refine lv_bipush (v := 12) hx hb dX8_bestValves_2 (by decide) ?_
  refine z_cS9 (D := (dC, dI)) (cl := vwCl) (tys := zt ca) (nw := zw_nest) (As := [.int a0, .int 1, .int 12]) (rest := []) ⟨hx, hb, hml, hown, hts⟩ (m_X8_needRangex l hl9 dC dI ca (fun _ => True) a0 1 12 h_n) (cwS 3 hts gX8_bestValves_X8_needRange rfl rfl rfl (by decide +kernel) ⟨Nat.le_of_ble_eq_true rfl, Nat.le_of_ble_eq_true rfl⟩) trivial hK hN hEx zw_nest_ok rfl hl.1 rfl (Nat.le_of_ble_eq_true rfl) dX8_bestValves_4 ⟨Nat.le_of_ble_eq_true rfl, Nat.le_of_ble_eq_true rfl⟩ hS (fun ce q9 H1 locs1 hS1 hce hcv hcl => ?_)
  exact vx_out (fun x hx9 => (htab x hx9).elim) hlocks hce hcv hcl (fun t ht _ => ⟨(), trivial, rfl, hS1.F ht⟩) hS1.2.2 (Nat.le_of_ble_eq_true rfl) (Nat.le_of_ble_eq_true rfl)
set_option maxHeartbeats 4000000 in
set_option maxRecDepth 100000 in
theorem m_X8_ofOwnerz (l : Launch) (hl9 : l.stackTraces = false) (dC : Nat → ClassId) (dI : Nat → Nat → Nat) (ca : Nat → ClassId) (sf : Nat) (ad : Nat → Nat) (ad2 : Nat → Nat) (M : zM) (N : zM) (a0 a1 : Int32) (h_i : z_ni a0 2) (h_n : ¬ z_rg a1 0 1) : vx_Met l yX8_ofOwner wsX8_ofOwner ({ frames := 7, cells := 1, slots := 6, locals := 104 }) (z_P9 (dC, dI) vwCl (zt ca) zw_nest [.ref sf, .int a0, .int a1] zFa (fun H => zT dC dI ca sf (ad 0) (ad2 0) H ∧ zW dC dI ca ad M H ∧ zW dC dI ca ad2 N H)) z_I9 (z_X9 zIAE) 1 6 zFa := by
  refine vx_ofW (cc := cX8_ofOwner) (maxL := 3) (ret := (some .int)) (by decide) rfl ?_
  intro p e s m args below meth c s₁ B9 hml htab hv
  obtain ⟨rfl, ⟨hT, hH, hG⟩, hK, hN, hEx⟩ := hv
  have hx := B9.exec
  have hb := B9.bytes
  have hr := B9.returns
  have hts := atoms_spec (ws := wsX8_ofOwner) B9.pre
  have hown : s.vm.findClass RX8 = some m.cls := findClass_of_methodNamed B9.named
  have hlocks := B9.notSynchronized
  have hS : va_S zFa s.heap s.heap [] := va_S.rf
  have hT : zT dC dI ca sf (ad 0) (ad2 0) s.heap := hT
  have hH : zW dC dI ca ad M s.heap := hH
  have hG : zW dC dI ca ad2 N s.heap := hG
  have hl := lv_entry ([.ref sf, .int a0, .int a1]) (n := 3) (Nat.le_of_ble_eq_true rfl)
  rw [lg_entry_eq]
  generalize (lg_sl ([.ref sf, .int a0, .int a1]) ++ List.replicate (3 - (lg_sl ([.ref sf, .int a0, .int a1])).length) Slot.unset).toArray = ls at hl ⊢
  have hl : lv_has ls 3 [(0, .ref sf), (1, .int a0), (2, .int a1)] := hl
  refine lv_iload_n hx hb dX8_ofOwner_0 rfl (lv_at hl 1 rfl) ?_
  refine lv_iconst (v := 2) hx hb dX8_ofOwner_1 (by decide) ?_
  refine z_cSv (D := (dC, dI)) (cl := vwCl) (tys := zt ca) (nw := zw_nest) (As := [.int a0, .int 2]) (rest := []) ⟨hx, hb, hml, hown, hts⟩ (m_X8_needIndex l dC dI ca (fun z : Heap => z = s.heap)  a0 2 h_i) (cwS 2 hts gX8_ofOwner_X8_needIndex rfl rfl rfl (by decide +kernel) ⟨Nat.le_of_ble_eq_true rfl, Nat.le_of_ble_eq_true rfl⟩) rfl hK hN zw_nest_ok rfl hl.1 rfl (Nat.le_of_ble_eq_true rfl) dX8_ofOwner_2 ⟨Nat.zero_le _, Nat.zero_le _⟩ hS (fun _ h => h.elim) (fun H locs hB1 oq1 hz1 hS => ?_)
  have hT : zT dC dI ca sf (ad 0) (ad2 0) H := by rw [hB1]; exact hT
  have hH : zW dC dI ca ad M H := by rw [hB1]; exact hH
  have hG : zW dC dI ca ad2 N H := by rw [hB1]; exact hG
  refine lv_iload_n hx hb dX8_ofOwner_5 rfl (lv_at hl 2 rfl) ?_
  refine lv_iconst (v := 0) hx hb dX8_ofOwner_6 (by decide) ?_
  refine lv_iconst (v := 1) hx hb dX8_ofOwner_7 (by decide) ?_
  refine z_cS9 (D := (dC, dI)) (cl := vwCl) (tys := zt ca) (nw := zw_nest) (As := [.int a1, .int 0, .int 1]) (rest := []) ⟨hx, hb, hml, hown, hts⟩ (m_X8_needRangex l hl9 dC dI ca (fun _ => True) a1 0 1 h_n) (cwS 3 hts gX8_ofOwner_X8_needRange rfl rfl rfl (by decide +kernel) ⟨Nat.le_of_ble_eq_true rfl, Nat.le_of_ble_eq_true rfl⟩) trivial hK hN hEx zw_nest_ok rfl hl.1 rfl (Nat.le_of_ble_eq_true rfl) dX8_ofOwner_8 ⟨Nat.le_of_ble_eq_true rfl, Nat.le_of_ble_eq_true rfl⟩ hS (fun ce q9 H1 locs1 hS1 hce hcv hcl => ?_)
  exact vx_out (fun x hx9 => (htab x hx9).elim) hlocks hce hcv hcl (fun t ht _ => ⟨(), trivial, rfl, hS1.F ht⟩) hS1.2.2 (Nat.le_of_ble_eq_true rfl) (Nat.le_of_ble_eq_true rfl)
