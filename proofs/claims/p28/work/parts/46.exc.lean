/-! ===== what a throw wants of the machine, and the call of a method that throws ===== -/
abbrev zISE : String := "java/lang/IllegalStateException"
abbrev zISn : List String := ["java/lang/RuntimeException", "java/lang/Exception"]
def zExW : List Cond := [.declares { cls := "java/lang/RuntimeException", name := "<init>", desc := "(Ljava/lang/String;)V" }, .declares { cls := "java/lang/Exception", name := "<init>", desc := "(Ljava/lang/String;)V" }, .declares { cls := "java/lang/Throwable", name := "<init>", desc := "(Ljava/lang/String;)V" }, .castable zISE zISE]
theorem zExW_tab : ∀ w ∈ zExW, w.onTables = true := by decide +kernel
def zEx (A : Nat → Prop) (U : State) : Prop := (∃ sa, vk_R RX8 149 "the owner has less" sa U) ∧ vx_Zq Bundle.tN "UNASSIGNED_STACK" Bundle.steD A U U.heap ∧ vx_Zq Bundle.tN "SUPPRESSED_SENTINEL" Bundle.listD A U U.heap ∧ ∀ w ∈ zExW, va_Nw w U
theorem zEx.same {A : Nat → Prop} {U V : State} (hv : U.vm = V.vm) (hh : V.heap = U.heap) (h : zEx A U) : zEx A V := by
  obtain ⟨⟨sa, h1⟩, h2, h3, h4⟩ := h
  refine ⟨⟨sa, vk_R.same hv.symm h1⟩, ?_, ?_, fun w hw => va_Nw.same (zExW_tab w hw) hv (h4 w hw)⟩
  · rw [hh]; exact vx_Zq.moved (by rw [hv]; exact Vm.Alike.refl _) h2
  · rw [hh]; exact vx_Zq.moved (by rw [hv]; exact Vm.Alike.refl _) h3
theorem zEx.warm {A B : Nat → Prop} {s U : State} (hAB : ∀ q, B q → A q) (hk : ∀ a : Nat, a < s.heap.size → ¬ A a → U.heap[a]? = s.heap[a]?) (hW : s.WarmedH U.vm) (h : zEx A s) : zEx B U := by
  obtain ⟨⟨sa, h1⟩, h2, h3, h4⟩ := h
  exact ⟨⟨sa, vk_R.warm hW h1⟩, (vx_Zq.moved hW.alike (h2.kept hk)).narrow hAB, (vx_Zq.moved hW.alike (h3.kept hk)).narrow hAB, fun w hw => by
    have h := h4 w hw
    simp only [zExW, List.mem_cons, List.not_mem_nil, or_false] at hw
    rcases hw with rfl | rfl | rfl | rfl
    · exact va_Nw.warmD hW h
    · exact va_Nw.warmD hW h
    · exact va_Nw.warmD hW h
    · exact va_Nw.warmC hW h⟩
abbrev z_Pe (D : va_G) (cl : List vw_C) (tys : List (ClassId × FieldType)) (nw : List Cond) (av : List Value) (A : Nat → Prop) (B : Heap → Prop) : Array Value → State → Prop := va_Pc av (fun U => B U.heap ∧ va_K D cl tys U ∧ z_N nw U ∧ zEx A U)
theorem z_blinde {D : va_G} {cl : List vw_C} {tys : List (ClassId × FieldType)} {nw : List Cond} (hn : nw.all z_nest = true) {av : List Value} {A : Nat → Prop} {B : Heap → Prop} : FrameBlind (z_Pe D cl tys nw av A B) := fun a U g mk q => by
  obtain ⟨q0, qB, qK, qN, qE⟩ := q
  exact ⟨q0, qB, va_K.moved (u := U) (U := U.calling g mk a) (Vm.Alike.refl U.vm) qK, z_N.same (s := U) (U := U.calling g mk a) hn rfl qN, zEx.same (U := U) (V := U.calling g mk a) rfl rfl qE⟩
theorem zS_keep {A0 : Nat → Prop} {H0 H : Heap} {locs : List Loc} (hS : va_S A0 H0 H locs) : ∀ a : Nat, a < H0.size → ¬ A0 a → H[a]? = H0[a]? := hS.2.1
theorem zEx_bad : (vx_atS RX8 138 zISE zISn).filter (fun w => !goodWord w) = zExW := by decide +kernel
theorem zEx_use {args : Array Value} {s : State} (h : ∀ w ∈ zExW, va_Nw w s) : ∀ w ∈ zExW, w.before args s = true := fun w hw => va_Nw.use (zExW_tab w hw) (h w hw)
theorem q_nle {x y : Int32} (h : x < y) : ¬ y ≤ x := by
  rw [Int32.lt_iff_toInt_lt] at h
  rw [Int32.le_iff_toInt_le]
  omega
section ZX
variable {p : Program} {l : Launch} {e : Env} {R : Room} {s : State} {m : MethodId} {args : Array Value} {below : List Frame} {meth : Method} {c : Code} {H : Heap} {locs : List Loc} {cells slots : Nat} {Q : State → Prop}
variable {cc : ByteArray} {pc nL : Nat} {ls : Array Slot} {rest st0 : List Value} {D : va_G} {cl : List vw_C} {A0 A1 : Nat → Prop} {tys : List (ClassId × FieldType)} {nw : List Cond}
variable {y : MethodName} {bytes : ByteArray} {maxL n index mc ms : Nat} {ret : Option FieldType} {ws Ts : List Cond} {rm : Room} {own C : String} {b : Addr} {As : List Value} {B B' : Heap → Prop}
/-- the call of a method that throws, whatever it is given -/
theorem z_cVx {E0 : String} (S : CallFix p m c cc nL s args Ts own) (hM : vx_Met l y ws rm (z_Pe D cl tys nw (.ref b :: As) A1 B) (va_Qi (fun (_ : Int32) (_ : Unit) => False) (fun _ _ => True) A1) (vx_X (fun (_ : Unit) => True) (fun E _ t => E = E0 ∧ B' t.heap) A1) mc ms A1) (cw : CallW R s args own C index y bytes maxL ret ws rm mc ms n)
    (hrec : ∃ cell : Cell, H[b]? = some cell ∧ cell.vm.isStatics = false ∧ s.vm.findClass C = some cell.cls) (hB : B H) (hK : va_K D cl tys s) (hN : z_N nw s) (hE : zEx A0 s) (hnw : nw.all z_nest = true) (hn : As.length = n) (hsize : ls.size = nL) (hst : st0 = As.reverse ++ .ref b :: rest) (hW : (rest.map fun v => v.category).sum ≤ 8) (hdg : decode cc pc = .ok (.invokevirtual index, 3)) (hf : cells + mc ≤ R.cells ∧ slots + ms ≤ R.slots) (hS : va_S A0 s.heap H locs) (hA : ∀ q, A1 q → A0 q)
    (kx : ∀ (ce : Cell) (q9 : Addr) (H1 : Heap) (locs1 : List Loc), B' H1 → va_S A0 s.heap H1 locs1 → H1[q9]? = some ce → ce.vm = .none → s.vm.findClass E0 = some ce.cls → vx_W p l e R s m args below meth c H1 locs1 (cells + mc) (slots + ms) Q (F0 m pc ls rest) q9) : W p l e R s m args below meth c H locs cells slots Q (F0 m pc ls st0) := by
  refine vx_calli (vx_runV S hM cw ⟨z_blinde hnw, hrec, fun U hU hW => ⟨rfl, by rw [hU]; exact hB, va_K.moved hW.alike hK, hN.warm hnw hW, hE.warm hA (by rw [hU]; exact hS.2.1) hW⟩⟩ rfl hn hsize hst (lv_room hW) hdg hf) hS (fun q _ h => hA q h) hA (fun q _ h => hA q h) (fun E ce q9 u t H1 locs1 ht hvm _ hb hz1 hk1 hS1 hce hcv hcl => ?_) (fun r u t H1 locs1 _ _ h => h.elim)
  obtain ⟨rfl, hb⟩ := hb
  rw [ht] at hb
  exact kx ce q9 H1 locs1 hb hS1 hce hcv hcl
end ZX
set_option maxHeartbeats 4000000 in
set_option maxRecDepth 100000 in
theorem m_X8_cleanx (l : Launch) (hl9 : l.stackTraces = false) (dC : Nat → ClassId) (dI : Nat → Nat → Nat) (ca : Nat → ClassId) (sf : Nat) (ad : Nat → Nat) (hI : z_I zd ad) (ad2 : Nat → Nat) (hI2 : z_I zd ad2) (hq : zSep sf ad ad2) (M : zM) (N : zM) (a0 : Int32) (hOk0 : z_Ok M) (h_a0 : z_ix a0 (zc12 M)) (h_c : M 8 (M (20 + (M (60 + a0.toNatClampNeg) 0).toNatClampNeg) 2).toNatClampNeg < 5 * M (60 + a0.toNatClampNeg) 3) : vx_Met l yX8_clean wsX8_clean ({ frames := 6, cells := 1, slots := 6, locals := 82 }) (z_Pe (dC, dI) vwCl (zt ca) zw_nest [.ref sf, .int a0] (zA2 ad ad2) (fun H => zT dC dI ca sf (ad 0) (ad2 0) H ∧ zW dC dI ca ad M H ∧ zW dC dI ca ad2 N H)) (va_Qi (fun (_ : Int32) (_ : Unit) => False) (fun _ _ => True) (zA2 ad ad2)) (vx_X (fun (_ : Unit) => True) (fun E _ t => E = zISE ∧ (fun H => zT dC dI ca sf (ad 0) (ad2 0) H ∧ zW dC dI ca ad M H ∧ zW dC dI ca ad2 N H) t.heap) (zA2 ad ad2)) 1 6 (zA2 ad ad2) := by
  refine vx_ofW (cc := cX8_clean) (maxL := 6) (ret := (some .int)) (by decide) rfl ?_
  intro p e s m args below meth c s₁ B9 hml htab hv
  obtain ⟨rfl, ⟨hT, hH, hG⟩, hK, hN, hEx⟩ := hv
  have hx := B9.exec
  have hb := B9.bytes
  have hr := B9.returns
  have hts := atoms_spec (ws := wsX8_clean) B9.pre
  have hown : s.vm.findClass RX8 = some m.cls := findClass_of_methodNamed B9.named
  have hlocks := B9.notSynchronized
  have hS : va_S (zA2 ad ad2) s.heap s.heap [] := va_S.rf
  have hOk := hOk0
  have hFx : z_Fx M M := z_Fx.rf
  have hT : zT dC dI ca sf (ad 0) (ad2 0) s.heap := hT
  have hH : zW dC dI ca ad M s.heap := hH
  have hG : zW dC dI ca ad2 N s.heap := hG
  have hinX0 : ∀ w ∈ u_ws RX0 TX0 3, w ∈ wsX8_clean := by decide +kernel
  have hinX3 : ∀ w ∈ u_ws RX3 TX3 15, w ∈ wsX8_clean := by decide +kernel
  have hinX7 : ∀ w ∈ u_ws RX7 TX7 9, w ∈ wsX8_clean := by decide +kernel
  have hinX8 : ∀ w ∈ u_ws RX8 TX8 2, w ∈ wsX8_clean := by decide +kernel
  have hl := lv_entry ([.ref sf, .int a0]) (n := 6) (Nat.le_of_ble_eq_true rfl)
  rw [lg_entry_eq]
  generalize (lg_sl ([.ref sf, .int a0]) ++ List.replicate (6 - (lg_sl ([.ref sf, .int a0])).length) Slot.unset).toArray = ls at hl ⊢
  have hl : lv_has ls 6 [(0, .ref sf), (1, .int a0)] := hl
  refine lv_iload_n hx hb dX8_clean_0 rfl (lv_at hl 1 rfl) ?_
  refine lv_aload_n hx hb dX8_clean_1 rfl (lv_at hl 0 rfl) ?_
  refine z_gS (k := 0) (v := ad 0) hx hb hts hinX8 hown hK hT (by decide) rfl (hts (.fieldLink RX8 10 "Steamfield" "land" "LSteamfield$Land;") (by decide +kernel)) (fun _ h9 => h9) dX8_clean_2 ?_
  refine z_giN (D := (dC, dI)) (cl := vwCl) (C := RX3) (T := TX3) (N := 15) (ci := 3) (k := 12) hx hb hts hinX3 hown hK hH zk_0 (by decide) rfl (by decide) rfl (hN (.fieldLinkNest RX8 99 "Steamfield$Land" "wellCount" "I" "Steamfield") (by decide +kernel)) (fun _ h9 => h9) dX8_clean_5 ?_
  refine lv_topi (fun x1 ex1 => ?_)
  have hx1 : x1 = nI (zc12 M) := by rw [ex1, hFx.c12]; exact z_Ok.c12 hOk0
  refine z_cSv (D := (dC, dI)) (cl := vwCl) (tys := zt ca) (nw := zw_nest) (As := [.int a0, .int x1]) (rest := []) ⟨hx, hb, hml, hown, hts⟩ (m_X8_needIndex l dC dI ca (fun z : Heap => z = s.heap)  a0 x1 (z_ni_of h_a0 hx1 (Nat.lt_of_le_of_lt (z_Ok.n12 hOk0) (by decide)))) (cwS 2 hts gX8_clean_X8_needIndex rfl rfl rfl (by decide +kernel) ⟨Nat.le_of_ble_eq_true rfl, Nat.le_of_ble_eq_true rfl⟩) rfl hK hN zw_nest_ok rfl hl.1 rfl (Nat.le_of_ble_eq_true rfl) dX8_clean_8 ⟨Nat.zero_le _, Nat.zero_le _⟩ hS (fun _ h => h.elim) (fun H locs hB1 oq1 hz1 hS => ?_)
  have hT : zT dC dI ca sf (ad 0) (ad2 0) H := by rw [hB1]; exact hT
  have hH : zW dC dI ca ad M H := by rw [hB1]; exact hH
  have hG : zW dC dI ca ad2 N H := by rw [hB1]; exact hG
  refine lv_aload_n hx hb dX8_clean_11 rfl (lv_at hl 0 rfl) ?_
  refine z_gS (k := 0) (v := ad 0) hx hb hts hinX8 hown hK hT (by decide) rfl (hts (.fieldLink RX8 10 "Steamfield" "land" "LSteamfield$Land;") (by decide +kernel)) (fun _ h9 => h9) dX8_clean_12 ?_
  refine z_grN (D := (dC, dI)) (cl := vwCl) (C := RX3) (T := TX3) (N := 15) (ci := 3) (k := 2) hx hb hts hinX3 hown hK hH zk_0 (by decide) rfl (by decide) rfl (zr_0 (k := 2) (by decide)) (hN (.fieldLinkNest RX8 102 "Steamfield$Land" "wells" "[LSteamfield$Well;" "Steamfield") (by decide +kernel)) (fun _ h9 => h9) dX8_clean_15 ?_
  refine lv_iload_n hx hb dX8_clean_18 rfl (lv_at hl 1 rfl) ?_
  refine z_aq (t0 := 3) (D := (dC, dI)) (cl := vwCl) (tys := zt ca) hx hb hK hH zk_3 (by decide) (by decide) rfl (show vp_in a0 6 from (z_ix.in (z_ix.mono h_a0 (z_Ok.n12 hOk0)))) (show zr 3 (a0 : Int32).toNatClampNeg = some (60 + a0.toNatClampNeg) from zr_3 (z_ix.lt (z_ix.mono h_a0 (z_Ok.n12 hOk0)))) dX8_clean_19 ?_
  refine lv_astore_n (lv' := [(2, .ref (ad (60 + a0.toNatClampNeg))), (0, .ref sf), (1, .int a0)]) hx hb dX8_clean_20 rfl hl (by decide) rfl (fun ls hl => ?_)
  refine lv_aload_n hx hb dX8_clean_21 rfl (lv_at hl 1 rfl) ?_
  refine z_gS (k := 0) (v := ad 0) hx hb hts hinX8 hown hK hT (by decide) rfl (hts (.fieldLink RX8 10 "Steamfield" "land" "LSteamfield$Land;") (by decide +kernel)) (fun _ h9 => h9) dX8_clean_22 ?_
  refine z_grN (D := (dC, dI)) (cl := vwCl) (C := RX3) (T := TX3) (N := 15) (ci := 3) (k := 0) hx hb hts hinX3 hown hK hH zk_0 (by decide) rfl (by decide) rfl (zr_0 (k := 0) (by decide)) (hN (.fieldLinkNest RX8 31 "Steamfield$Land" "blocks" "[LSteamfield$Block;" "Steamfield") (by decide +kernel)) (fun _ h9 => h9) dX8_clean_25 ?_
  refine lv_aload_n hx hb dX8_clean_28 rfl (lv_at hl 0 rfl) ?_
  refine z_giN (D := (dC, dI)) (cl := vwCl) (C := RX7) (T := TX7) (N := 9) (ci := 7) (k := 0) hx hb hts hinX7 hown hK hH (zk_v (z_ix.lt (z_ix.mono h_a0 (z_Ok.n12 hOk0)))) (by decide) rfl (by decide) rfl (hN (.fieldLinkNest RX8 106 "Steamfield$Well" "block" "I" "Steamfield") (by decide +kernel)) (fun _ h9 => h9) dX8_clean_29 ?_
  refine lv_topi (fun x2 ex2 => ?_)
  have hx2 : z_ix x2 8 := by rw [ex2]; exact z_Ok.wblock hOk (z_ix.lt (z_ix.mono h_a0 (z_Ok.n12 hOk0)))
  refine z_aq (t0 := 1) (D := (dC, dI)) (cl := vwCl) (tys := zt ca) hx hb hK hH zk_1 (by decide) (by decide) rfl (show vp_in x2 8 from (z_ix.in hx2)) (show zr 1 (x2 : Int32).toNatClampNeg = some (20 + x2.toNatClampNeg) from zr_1 (z_ix.lt hx2)) dX8_clean_32 ?_
  refine z_giN (D := (dC, dI)) (cl := vwCl) (C := RX0) (T := TX0) (N := 3) (ci := 0) (k := 2) hx hb hts hinX0 hown hK hH (zk_b (z_ix.lt hx2)) (by decide) rfl (by decide) rfl (hN (.fieldLinkNest RX8 40 "Steamfield$Block" "owner" "I" "Steamfield") (by decide +kernel)) (fun _ h9 => h9) dX8_clean_33 ?_
  refine lv_topi (fun x3 ex3 => ?_)
  have hx3 : z_ix x3 2 := by rw [ex3]; exact z_Ok.owner hOk (z_ix.lt hx2)
  refine lv_istore_n (lv' := [(3, .int x3), (2, .ref (ad (60 + a0.toNatClampNeg))), (0, .ref sf), (1, .int a0)]) hx hb dX8_clean_36 rfl hl (by decide) rfl (fun ls hl => ?_)
  refine lv_iconst (v := 5) hx hb dX8_clean_37 (by decide) ?_
  refine lv_aload_n hx hb dX8_clean_38 rfl (lv_at hl 1 rfl) ?_
  refine z_giN (D := (dC, dI)) (cl := vwCl) (C := RX7) (T := TX7) (N := 9) (ci := 7) (k := 3) hx hb hts hinX7 hown hK hH (zk_v (z_ix.lt (z_ix.mono h_a0 (z_Ok.n12 hOk0)))) (by decide) rfl (by decide) rfl (hN (.fieldLinkNest RX8 142 "Steamfield$Well" "scale" "I" "Steamfield") (by decide +kernel)) (fun _ h9 => h9) dX8_clean_39 ?_
  refine lv_topi (fun x4 ex4 => ?_)
  refine lv_imul hx hb dX8_clean_42 ?_
  refine lv_topi (fun x5 ex5 => ?_)
  refine lv_istore (lv' := [(4, .int x5), (3, .int x3), (2, .ref (ad (60 + a0.toNatClampNeg))), (0, .ref sf), (1, .int a0)]) hx hb dX8_clean_43 hl (by decide) rfl (fun ls hl => ?_)
  refine lv_aload_n hx hb dX8_clean_45 rfl (lv_at hl 3 rfl) ?_
  refine z_gS (k := 0) (v := ad 0) hx hb hts hinX8 hown hK hT (by decide) rfl (hts (.fieldLink RX8 10 "Steamfield" "land" "LSteamfield$Land;") (by decide +kernel)) (fun _ h9 => h9) dX8_clean_46 ?_
  refine z_grN (D := (dC, dI)) (cl := vwCl) (C := RX3) (T := TX3) (N := 15) (ci := 3) (k := 7) hx hb hts hinX3 hown hK hH zk_0 (by decide) rfl (by decide) rfl (zr_0 (k := 7) (by decide)) (hN (.fieldLinkNest RX8 145 "Steamfield$Land" "coins" "[I" "Steamfield") (by decide +kernel)) (fun _ h9 => h9) dX8_clean_49 ?_
  refine lv_iload_n hx hb dX8_clean_52 rfl (lv_at hl 1 rfl) ?_
  refine z_al (t0 := 0) (D := (dC, dI)) (cl := vwCl) (tys := zt ca) hx hb hK hH zk_8 rfl (show vp_in x3 2 from (z_ix.in hx3)) dX8_clean_53 ?_
  refine lv_topi (fun x6 ex6 => ?_)
  refine lv_iload hx hb dX8_clean_54 (lv_at hl 0 rfl) ?_
  refine lv_icmp_ge (tgt := 69) hx hb dX8_clean_56 (by decide) (fun c7 => absurd c7 (q_nle (by subst ex6; subst ex5; subst ex4; subst ex3; subst ex2; subst ex1; exact h_c))) (fun c7 => ?_)
  have hE9 := hEx
  obtain ⟨⟨sa, hstr⟩, hZU, hZN, hcst⟩ := hE9
  refine vx_throwS (own := RX8) (cls := zISE) (text := "the owner has less") (names := zISn) (ik := 134) (is := 149) (ic := 138) (sa := sa) (A := zA2 ad ad2) hx hb hl9 hown (by decide +kernel) (by decide +kernel) (hts (.classLink RX8 134 zISE) (by decide +kernel)) (hts (.initialized zISE) (by decide +kernel)) hstr (vx_hat (fun w hw => hts w (List.mem_cons_of_mem _ (List.mem_append_left _ (List.mem_append_right _ hw)))) (by rw [zEx_bad]; exact fun w hw => hw) (zEx_use hcst)) (by decide +kernel) hZU hZN hS (hl.1.trans hml.symm) dX8_clean_59 dX8_clean_62 dX8_clean_63 dX8_clean_65 dX8_clean_68 (fun x hx9 => (htab x hx9).elim) (by decide) (by decide) (by decide) (by decide) hlocks (fun t hv hz9 hk9 => ⟨(), trivial, ⟨rfl, hT.kept (fun i hi => hk9 _ (hT.lt hi)), hH.kept (fun i hi => hk9 _ (hH.lt hi)), hG.kept (fun i hi => hk9 _ (hG.lt hi))⟩, Nat.le_trans hS.1 hz9, fun q h1 h2 => (hk9 q (Nat.lt_of_lt_of_le h1 hS.1)).trans (hS.2.1 q h1 h2)⟩) hS.2.2 (Nat.le_refl _) (Nat.le_refl _)
