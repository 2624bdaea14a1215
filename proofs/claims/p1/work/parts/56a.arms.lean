/-! ===== the law's arms ===== -/
theorem yA_law {mo sz h0 : Nat} {ad : Nat → Nat} (h1 : h0 ≤ mo) (h2 : ∀ i, yd.1 i < 200 → h0 ≤ ad i) (h3 : h0 ≤ sz) : ∀ q, yA mo ad sz q → h0 ≤ q := by
  rintro q (h | ⟨i, hi, rfl⟩ | h)
  · rw [h]; exact h1
  · exact h2 i hi
  · exact Nat.le_trans h3 h
theorem yA_ob {mo ob sz : Nat} {ad : Nat → Nat} (h1 : mo < ob) (h2 : ∀ i, yd.1 i < 200 → mo < ad i ∧ ad i < ob) (h3 : ob < sz) : ¬ yA mo ad sz ob := by
  rintro (h | ⟨i, hi, h⟩ | h)
  · omega
  · have := h2 i hi; omega
  · omega
section ZLY
variable {p : Program} {l : Launch} {e : Env} {R : Room} {s : State} {m : MethodId} {args : Array Value} {below : List Frame} {meth : Method} {c : Code} {H : Heap} {locs : List Loc} {cells slots : Nat} {Q : State → Prop}
variable {cc : ByteArray} {pc nL : Nat} {ls : Array Slot} {rest st0 : List Value} {D : va_G} {cl : List vw_C} {A0 A1 : Nat → Prop} {tys : List (ClassId × FieldType)} {H0 : Heap} {nw : List Cond}
variable {y : MethodName} {bytes : ByteArray} {maxL n index mc ms : Nat} {ret : Option FieldType} {ws Ts : List Cond} {rm : Room} {own C host : String} {b : Addr} {As : List Value} {B B' : Heap → Prop}
theorem z_cVl {v : Int64} (S : CallFix p m c cc nL s args Ts own) (hM : Met l y ws rm (z_Pc D cl tys nw (.ref b :: As) B) (z_Ql v B' A1) 0 0 A1) (cw : CallW R s args own C index y bytes maxL ret ws rm 0 0 n)
    (hrec : ∃ cell : Cell, H[b]? = some cell ∧ cell.vm.isStatics = false ∧ s.vm.findClass C = some cell.cls) (hB : B H) (hK : va_K D cl tys s) (hN : z_N nw s) (hnw : nw.all z_nest = true) (hn : As.length = n) (hsize : ls.size = nL) (hst : st0 = As.reverse ++ .ref b :: rest) (hW : (rest.map fun v => v.category).sum ≤ 8) (hdg : decode cc pc = .ok (.invokevirtual index, 3)) (hf : cells ≤ R.cells ∧ slots ≤ R.slots) (hS : va_S A0 H0 H locs) (hA : ∀ q, A1 q → A0 q)
    (kk : ∀ (H1 : Heap) (locs1 : List Loc), B' H1 → (∀ q : Nat, q < H.size → ¬ A1 q → H1[q]? = H[q]?) → H.size ≤ H1.size → va_S A0 H0 H1 locs1 → W p l e R s m args below meth c H1 locs1 cells slots Q (F0 m (pc + 3) ls (.long v :: rest))) : W p l e R s m args below meth c H locs cells slots Q (F0 m pc ls st0) := by
  refine va_calll (va_runV S hM cw ⟨z_blind hnw, hrec, fun U hU hW => ⟨rfl, by rw [hU]; exact hB, va_K.moved hW.alike hK, hN.warm hnw hW⟩⟩ rfl hn hsize hst (lv_room hW) hdg hf) hS (fun q _ h => hA q h) hA (fun r u t H1 locs1 ht hvm hw hB1 hz1 hk1 hS1 => ?_)
  subst hw
  rw [ht] at hB1
  exact kk H1 locs1 hB1 hk1 hz1 hS1
theorem y_cVd {P : UInt64 → Prop} (S : CallFix p m c cc nL s args Ts own) (hM : Met l y ws rm (z_Py D cl tys nw (.ref b :: As) B) (z_Qd P B' A1) mc ms A1) (cw : CallW R s args own C index y bytes maxL ret ws rm mc ms n)
    (hrec : ∃ cell : Cell, H[b]? = some cell ∧ cell.vm.isStatics = false ∧ s.vm.findClass C = some cell.cls) (hB : B H) (hK : va_K D cl tys s) (hN : z_N nw s) (hX : va_AOA .int s) (hnw : nw.all z_nest = true) (hn : As.length = n) (hsize : ls.size = nL) (hst : st0 = As.reverse ++ .ref b :: rest) (hW : (rest.map fun v => v.category).sum ≤ 8) (hdg : decode cc pc = .ok (.invokevirtual index, 3)) (hf : cells + mc ≤ R.cells ∧ slots + ms ≤ R.slots) (hS : va_S A0 H0 H locs) (hA : ∀ q, A1 q → A0 q)
    (kk : ∀ (r : UInt64), P r → ∀ (H1 : Heap) (locs1 : List Loc), B' H1 → (∀ q : Nat, q < H.size → ¬ A1 q → H1[q]? = H[q]?) → H.size ≤ H1.size → va_S A0 H0 H1 locs1 → W p l e R s m args below meth c H1 locs1 (cells + mc) (slots + ms) Q (F0 m (pc + 3) ls (.double r :: rest))) : W p l e R s m args below meth c H locs cells slots Q (F0 m pc ls st0) := by
  refine va_calld (va_runV S hM cw ⟨z_blindy hnw, hrec, fun U hU hW => ⟨rfl, by rw [hU]; exact hB, va_K.moved hW.alike hK, hN.warm hnw hW, hX.moved hW.alike⟩⟩ rfl hn hsize hst (lv_room hW) hdg hf) hS (fun q _ h => hA q h) hA (fun r u t H1 locs1 ht hvm hw hB1 hz1 hk1 hS1 => ?_)
  rw [ht] at hB1
  exact kk r hw H1 locs1 hB1 hk1 hz1 hS1
end ZLY
set_option maxHeartbeats 4000000 in
set_option maxRecDepth 100000 in
theorem m_X10_thrown0 (l : Launch) (dC : Nat → ClassId) (dI : Nat → Nat → Nat) (ca : Nat → ClassId) (mo f9 : Nat) (th : Int32) (sm : Int64) : Met l yX10_thrown wsX10_thrown ({ frames := 0, cells := 0, slots := 0, locals := 0 }) (z_Py (dC, dI) vwCl (yt ca) zw_nest [.ref mo] (fun H => yMo dC dI mo th f9 sm H)) (z_Qi th (fun H => yMo dC dI mo th f9 sm H) zFa) 0 0 zFa := by
  refine Met.ofW (cc := cX10_thrown) (maxL := 1) (ret := (some .int)) (by decide) rfl ?_
  intro p e s m args below meth c s₁ B9 hml hv
  obtain ⟨rfl, hMo, hK, hN, hX⟩ := hv
  have hx := B9.exec
  have hb := B9.bytes
  have hr := B9.returns
  have hts := atoms_spec (ws := wsX10_thrown) B9.pre
  have hown : s.vm.findClass RX10 = some m.cls := findClass_of_methodNamed B9.named
  have hlocks := B9.notSynchronized
  have hS : va_S zFa s.heap s.heap [] := va_S.rf
  have hinX10 : ∀ w ∈ u_ws RX10 TX10 3, w ∈ wsX10_thrown := by decide +kernel
  have hl := lv_entry ([.ref mo]) (n := 1) (Nat.le_of_ble_eq_true rfl)
  rw [lg_entry_eq]
  generalize (lg_sl ([.ref mo]) ++ List.replicate (1 - (lg_sl ([.ref mo])).length) Slot.unset).toArray = ls at hl ⊢
  have hl : lv_has ls 1 [(0, .ref mo)] := hl
  refine lv_aload_n hx hb dX10_thrown_0 rfl (lv_at hl 0 rfl) ?_
  refine yo_get (D := (dC, dI)) (cl := vwCl) (C := RX10) (T := TX10) (N := 3) (ci := 10) (v := .int th) hx hb hts hinX10 hown hK hMo rfl 0 (by decide) (hts (.fieldLink RX10 16 "SteamfieldModel" "thrown" "I") (by decide +kernel)) (fun _ h9 => h9) rfl dX10_thrown_1 ?_
  exact W.iret (v := th) hx hb hr (fun t ht hW => ⟨⟨th, (), rfl, rfl, z_to (B := (fun H => yMo dC dI mo th f9 sm H)) ht hMo⟩, hS.F ht⟩) hS.2.2 dX10_thrown_4
theorem z_rg_ni {x : Int32} (h : z_ni x 2) : z_rg x 0 1 := by
  obtain ⟨h1, h2⟩ := h
  refine ⟨h1, fun h3 => h2 ?_⟩
  rw [Int32.lt_iff_toInt_lt] at h3
  rw [Int32.le_iff_toInt_le]
  rw [show (1 : Int32).toInt = 1 from rfl] at h3
  rw [show (2 : Int32).toInt = 2 from rfl]
  omega
set_option maxHeartbeats 4000000 in
set_option maxRecDepth 100000 in
theorem la_block {p : Program} {e : Env} {s : State} {m : MethodId} {below : List Frame} {meth : Method} {c : Code} {Q : State → Prop} (l : Launch) (hl9 : l.stackTraces = false) {b : Nat} {xs : Nat → Int32} (dC : Nat → ClassId) (dI : Nat → Nat → Nat) (ca : Nat → ClassId)
    (hx : p.tables.exec = Jvm.exec) (hb : c.code = cL_law) (hml : c.maxLocals = 9) (hown : s.vm.findClass RL = some m.cls) (hts : ∀ w ∈ wsL_law, w.before #[Value.ref b] s = true) (hX : va_X b 6 xs s s.heap) (hbl : b < s.heap.size) (hK : va_K (dC, dI) vwCl (lt9 ca) s) (hN : z_N zw_nest s) (hAO : va_AOA .int s) (hEx : zEx9 (fun q => s.heap.size ≤ q) s)
    (sf mo ob : Nat) (ad ad2 ar : Nat → Nat) (hI : z_I zd ad) (hI2 : z_I zd ad2) (hq : zSep sf ad ad2) (hA2 : ∀ q, zA2 ad ad2 q → s.heap.size ≤ q ∧ q < mo) (hIr : z_I yd ar) (hrb : ∀ i, yd.1 i < 200 → mo < ar i ∧ ar i < ob) (hmo : s.heap.size ≤ mo) (hob : mo < ob)
    (H : Heap) (locs : List Loc) (ls : Array Slot) (hl : lv_has ls 9 [(4, .int 0), (3, .ref ob), (2, .ref mo), (1, .ref sf), (0, .ref b)]) (hT : zT dC dI ca sf (ad 0) (ad2 0) H) (hC1 : zW dC dI ca ad zMi H) (hC2 : zW dC dI ca ad2 zMi H) (hMo : yMo dC dI mo 0 (ar 0) 0 H) (hR : yW dC dI ca ar (yM 0) H) (hO : yO dC dI ca ob (fun _ => 0) H) (hS : va_S (fun q => s.heap.size ≤ q) s.heap H locs)
    (hJ : ∀ (H : Heap) (locs : List Loc) (ls : Array Slot), lv_has ls 9 [(4, .int 0), (3, .ref ob), (2, .ref mo), (1, .ref sf), (0, .ref b)] → va_S (fun q => s.heap.size ≤ q) s.heap H locs → W p l e room_1 s m #[Value.ref b] below meth c H locs 656031 7134144 Q (F0 m 1716 ls [])) : W p l e room_1 s m #[Value.ref b] below meth c H locs 146 780 Q (F0 m 156 ls []) := by
  have hbA : ¬ (fun q => s.heap.size ≤ q) b := Nat.not_le.mpr hbl
  have hK5 : va_K (dC, dI) vwCl (zt ca) s := va_K.sub hK [0, 1, 2, 3, 4] rfl
  have hK9 : va_K (dC, dI) vwCl (yt ca) s := va_K.sub hK [0, 5] rfl
  have hmr : ∀ i, yd.1 i < 200 → ar i ≠ mo := fun i hi => by have h1 := hrb i hi; omega
  have hob2 : ¬ zA2 ad ad2 ob := fun h => by have h1 := hA2 _ h; omega
  have hAz : ∀ q, zA2 ad ad2 q → (fun q => s.heap.size ≤ q) q := fun q h => (hA2 q h).1
  have hAo : ∀ q, zAo ad ad2 ob q → (fun q => s.heap.size ≤ q) q := by
    rintro q (h | h)
    · exact (hA2 q h).1
    · rw [h]; show s.heap.size ≤ ob; omega
  have hmoA : ¬ zAo ad ad2 ob mo := by
    rintro (h | h)
    · have h1 := hA2 _ h; omega
    · omega
  have hrA : ∀ i, yd.1 i < 200 → ¬ zAo ad ad2 ob (ar i) := fun i hi => by
    have h2 := hrb i hi
    rintro (h | h)
    · have h1 := hA2 _ h; omega
    · omega
  by_cases h : z_rg (xs 1) 10 99 ∧ z_rg (xs 2) 0 1 ∧ z_rg (xs 3) 0 2000 ∧ z_rg (xs 4) 0 400 ∧ z_rg (xs 5) 0 9999
  · obtain ⟨h0, h1, h2, h3, h4⟩ := h
    refine lv_aload_n hx hb dL_law_156 rfl (lv_at hl 3 rfl) ?_
    refine lv_aload_n hx hb dL_law_157 rfl (lv_at hl 4 rfl) ?_
    refine lv_iload hx hb dL_law_158 (lv_at hl 0 rfl) ?_
    refine lv_iconst (v := 1) hx hb dL_law_160 (by decide) ?_
    refine lv_iadd hx hb dL_law_161 ?_
    refine y_num (b := 1) (by decide) ?_
    refine va_sld hx hb hX hbl hbA hS (show vp_in 1 6 from zx (n := 1) rfl (by decide) (by decide)) dL_law_162 ?_
    refine y_num (b := (xs 1)) (show xs 1 = (xs 1) from rfl) ?_
    refine lv_aload_n hx hb dL_law_163 rfl (lv_at hl 4 rfl) ?_
    refine lv_iload hx hb dL_law_164 (lv_at hl 0 rfl) ?_
    refine lv_iconst (v := 2) hx hb dL_law_166 (by decide) ?_
    refine lv_iadd hx hb dL_law_167 ?_
    refine y_num (b := 2) (by decide) ?_
    refine va_sld hx hb hX hbl hbA hS (show vp_in 2 6 from zx (n := 2) rfl (by decide) (by decide)) dL_law_168 ?_
    refine y_num (b := (xs 2)) (show xs 2 = (xs 2) from rfl) ?_
    refine lv_aload_n hx hb dL_law_169 rfl (lv_at hl 4 rfl) ?_
    refine lv_iload hx hb dL_law_170 (lv_at hl 0 rfl) ?_
    refine lv_iconst (v := 3) hx hb dL_law_172 (by decide) ?_
    refine lv_iadd hx hb dL_law_173 ?_
    refine y_num (b := 3) (by decide) ?_
    refine va_sld hx hb hX hbl hbA hS (show vp_in 3 6 from zx (n := 3) rfl (by decide) (by decide)) dL_law_174 ?_
    refine y_num (b := (xs 3)) (show xs 3 = (xs 3) from rfl) ?_
    refine lv_aload_n hx hb dL_law_175 rfl (lv_at hl 4 rfl) ?_
    refine lv_iload hx hb dL_law_176 (lv_at hl 0 rfl) ?_
    refine lv_iconst (v := 4) hx hb dL_law_178 (by decide) ?_
    refine lv_iadd hx hb dL_law_179 ?_
    refine y_num (b := 4) (by decide) ?_
    refine va_sld hx hb hX hbl hbA hS (show vp_in 4 6 from zx (n := 4) rfl (by decide) (by decide)) dL_law_180 ?_
    refine y_num (b := (xs 4)) (show xs 4 = (xs 4) from rfl) ?_
    refine lv_aload_n hx hb dL_law_181 rfl (lv_at hl 4 rfl) ?_
    refine lv_iload hx hb dL_law_182 (lv_at hl 0 rfl) ?_
    refine lv_iconst (v := 5) hx hb dL_law_184 (by decide) ?_
    refine lv_iadd hx hb dL_law_185 ?_
    refine y_num (b := 5) (by decide) ?_
    refine va_sld hx hb hX hbl hbA hS (show vp_in 5 6 from zx (n := 5) rfl (by decide) (by decide)) dL_law_186 ?_
    refine y_num (b := (xs 5)) (show xs 5 = (xs 5) from rfl) ?_
    refine lv_aload_n hx hb dL_law_187 rfl (lv_at hl 1 rfl) ?_
    refine z_cW (D := (dC, dI)) (cl := vwCl) (tys := lt9 ca) (nw := zw_nest) (av := [.ref sf, .int (xs 1), .int (xs 2), .int (xs 3), .int (xs 4), .int (xs 5), .ref ob]) (rest := []) ⟨hx, hb, hml, hown, hts⟩ (m_L_blocky l dC dI ca sf ad hI ad2 hI2 hq ob hob2 (fun _ => 0) zMi zMi (xs 1) (xs 2) (xs 3) (xs 4) (xs 5) zOkMi h0 h1 h2 h3 h4 (by decide)) (vx_cwSW 7 hts gL_law_L_block rfl rfl rfl (by decide +kernel) ⟨Nat.le_of_ble_eq_true rfl, Nat.le_of_ble_eq_true rfl⟩) ⟨⟨hT, hC1, hC2⟩, hO⟩ hK hN zw_nest_ok rfl hl.1 rfl (Nat.le_of_ble_eq_true rfl) dL_law_188 ⟨(by show 146 + 0 ≤ 656031; omega), (by show 780 + 0 ≤ 7134144; omega)⟩ hS hAo (fun H locs hB1 oq1 hz1 hS => ?_)
    have hO := hB1
    rw [vX_block _ _ _ _ _] at hO
    have hMo := va_at.kept hMo (oq1 _ (va_at.lt hMo) hmoA)
    have hR := hR.kept (fun i hi => oq1 _ (hR.lt hi) (hrA i hi))
    refine lv_istore (lv' := [(5, .int 0), (4, .int 0), (3, .ref ob), (2, .ref mo), (1, .ref sf), (0, .ref b)]) hx hb dL_law_191 hl (by decide) rfl (fun ls hl => ?_)
    refine lv_aload_n hx hb dL_law_193 rfl (lv_at hl 3 rfl) ?_
    refine lv_aload_n hx hb dL_law_194 rfl (lv_at hl 5 rfl) ?_
    refine lv_iload hx hb dL_law_195 (lv_at hl 1 rfl) ?_
    refine lv_iconst (v := 1) hx hb dL_law_197 (by decide) ?_
    refine lv_iadd hx hb dL_law_198 ?_
    refine y_num (b := 1) (by decide) ?_
    refine va_sld hx hb hX hbl hbA hS (show vp_in 1 6 from zx (n := 1) rfl (by decide) (by decide)) dL_law_199 ?_
    refine y_num (b := (xs 1)) (show xs 1 = (xs 1) from rfl) ?_
    refine lv_aload_n hx hb dL_law_200 rfl (lv_at hl 5 rfl) ?_
    refine lv_iload hx hb dL_law_201 (lv_at hl 1 rfl) ?_
    refine lv_iconst (v := 2) hx hb dL_law_203 (by decide) ?_
    refine lv_iadd hx hb dL_law_204 ?_
    refine y_num (b := 2) (by decide) ?_
    refine va_sld hx hb hX hbl hbA hS (show vp_in 2 6 from zx (n := 2) rfl (by decide) (by decide)) dL_law_205 ?_
    refine y_num (b := (xs 2)) (show xs 2 = (xs 2) from rfl) ?_
    refine lv_aload_n hx hb dL_law_206 rfl (lv_at hl 5 rfl) ?_
    refine lv_iload hx hb dL_law_207 (lv_at hl 1 rfl) ?_
    refine lv_iconst (v := 3) hx hb dL_law_209 (by decide) ?_
    refine lv_iadd hx hb dL_law_210 ?_
    refine y_num (b := 3) (by decide) ?_
    refine va_sld hx hb hX hbl hbA hS (show vp_in 3 6 from zx (n := 3) rfl (by decide) (by decide)) dL_law_211 ?_
    refine y_num (b := (xs 3)) (show xs 3 = (xs 3) from rfl) ?_
    refine lv_aload_n hx hb dL_law_212 rfl (lv_at hl 5 rfl) ?_
    refine lv_iload hx hb dL_law_213 (lv_at hl 1 rfl) ?_
    refine lv_iconst (v := 4) hx hb dL_law_215 (by decide) ?_
    refine lv_iadd hx hb dL_law_216 ?_
    refine y_num (b := 4) (by decide) ?_
    refine va_sld hx hb hX hbl hbA hS (show vp_in 4 6 from zx (n := 4) rfl (by decide) (by decide)) dL_law_217 ?_
    refine y_num (b := (xs 4)) (show xs 4 = (xs 4) from rfl) ?_
    refine lv_aload_n hx hb dL_law_218 rfl (lv_at hl 5 rfl) ?_
    refine lv_iload hx hb dL_law_219 (lv_at hl 1 rfl) ?_
    refine lv_iconst (v := 5) hx hb dL_law_221 (by decide) ?_
    refine lv_iadd hx hb dL_law_222 ?_
    refine y_num (b := 5) (by decide) ?_
    refine va_sld hx hb hX hbl hbA hS (show vp_in 5 6 from zx (n := 5) rfl (by decide) (by decide)) dL_law_223 ?_
    refine y_num (b := (xs 5)) (show xs 5 = (xs 5) from rfl) ?_
    refine y_cVi (D := (dC, dI)) (cl := vwCl) (tys := yt ca) (nw := zw_nest) (C := RX10) (As := [.int (xs 1), .int (xs 2), .int (xs 3), .int (xs 4), .int (xs 5)]) (rest := []) ⟨hx, hb, hml, hown, hts⟩ (m_X10_blocky l dC dI ca mo _ ar hIr hmr 0 0 (xs 1) (xs 2) (xs 3) (xs 4) (xs 5) h0 h1 h2 h3 h4) (cwV 5 hts gL_law_X10_block rfl rfl rfl (by decide +kernel) ⟨Nat.le_of_ble_eq_true rfl, Nat.le_of_ble_eq_true rfl⟩) (va_recv hK9 (y_one hMo) (ci := 10) rfl (q0 := 0) rfl) ⟨rfl, hMo, hR⟩ hK9 hN hAO zw_nest_ok rfl hl.1 rfl (Nat.le_of_ble_eq_true rfl) dL_law_224 ⟨(by show 146 + 0 ≤ 656031; omega), (by show 780 + 0 ≤ 7134144; omega)⟩ hS (yA_law hmo (fun i hi => Nat.le_trans hmo (Nat.le_of_lt (hrb i hi).1)) hS.1) (fun H locs hB1 oq1 hz1 hS => ?_)
    have hO := va_at.kept hO (oq1 _ (va_at.lt hO) (yA_ob hob hrb (va_at.lt hO)))
    have hMo := hB1
    refine lv_istore (lv' := [(6, .int 0), (5, .int 0), (4, .int 0), (3, .ref ob), (2, .ref mo), (1, .ref sf), (0, .ref b)]) hx hb dL_law_227 hl (by decide) rfl (fun ls hl => ?_)
    refine lv_aload_n hx hb dL_law_229 rfl (lv_at hl 4 rfl) ?_
    refine y_cVi (D := (dC, dI)) (cl := vwCl) (tys := yt ca) (nw := zw_nest) (C := RX10) (As := []) (rest := []) ⟨hx, hb, hml, hown, hts⟩ (m_X10_thrown0 l dC dI ca mo (ar 0) 0 0) (cwV 0 hts gL_law_X10_thrown rfl rfl rfl (by decide +kernel) ⟨Nat.le_of_ble_eq_true rfl, Nat.le_of_ble_eq_true rfl⟩) (va_recv hK9 (y_one hMo) (ci := 10) rfl (q0 := 0) rfl) hMo hK9 hN hAO zw_nest_ok rfl hl.1 rfl (Nat.le_of_ble_eq_true rfl) dL_law_230 ⟨(by show 146 + 0 ≤ 656031; omega), (by show 780 + 0 ≤ 7134144; omega)⟩ hS (fun _ h => h.elim) (fun H locs hB1 oq1 hz1 hS => ?_)
    have hO := va_at.kept hO (oq1 _ (va_at.lt hO) (fun h => h))
    refine lv_iload hx hb dL_law_233 (lv_at hl 1 rfl) ?_
    refine lv_icmp_eq (tgt := 240) hx hb dL_law_235 (by decide) (fun _ => ?_) (fun c9 => absurd rfl c9)
    refine lv_iload hx hb dL_law_240 (lv_at hl 1 rfl) ?_
    refine lv_if_ne (tgt := 257) hx hb dL_law_242 (by decide) (fun c9 => absurd c9 (by decide)) (fun _ => ?_)
    refine lv_aload_n hx hb dL_law_245 rfl (lv_at hl 3 rfl) ?_
    refine lv_iconst (v := 0) hx hb dL_law_246 (by decide) ?_
    refine va_lald hx hb hK (y_one hO) 0 6 rfl rfl (zx (n := 0) (N := 1) (x := 0) rfl (by decide) (by decide)) dL_law_247 ?_
    refine y_lng (b := (0 : Int32).toInt64) rfl ?_
    refine lv_iload hx hb dL_law_248 (lv_at hl 0 rfl) ?_
    refine lv_i2l hx hb dL_law_250 rfl ?_
    refine W.lcmp hx hb dL_law_251 ?_
    refine y_num (b := 0) (lg_self _) ?_
    refine lv_if_eq (tgt := 257) hx hb dL_law_252 (by decide) (fun _ => ?_) (fun c9 => absurd rfl c9)
    refine lv_goto (tgt := 1716) hx hb dL_law_257 (by decide) ?_
    refine W.widen (k := 656031) (n := 7134144) (by show 146 ≤ 656031; omega) (by show 780 ≤ 7134144; omega) ?_
    exact hJ _ _ _ (lv_sub hl [2, 3, 4, 5, 6] rfl) hS
  · skip
    refine lv_aload_n hx hb dL_law_156 rfl (lv_at hl 3 rfl) ?_
    refine lv_aload_n hx hb dL_law_157 rfl (lv_at hl 4 rfl) ?_
    refine lv_iload hx hb dL_law_158 (lv_at hl 0 rfl) ?_
    refine lv_iconst (v := 1) hx hb dL_law_160 (by decide) ?_
    refine lv_iadd hx hb dL_law_161 ?_
    refine y_num (b := 1) (by decide) ?_
    refine va_sld hx hb hX hbl hbA hS (show vp_in 1 6 from zx (n := 1) rfl (by decide) (by decide)) dL_law_162 ?_
    refine y_num (b := (xs 1)) (show xs 1 = (xs 1) from rfl) ?_
    refine lv_aload_n hx hb dL_law_163 rfl (lv_at hl 4 rfl) ?_
    refine lv_iload hx hb dL_law_164 (lv_at hl 0 rfl) ?_
    refine lv_iconst (v := 2) hx hb dL_law_166 (by decide) ?_
    refine lv_iadd hx hb dL_law_167 ?_
    refine y_num (b := 2) (by decide) ?_
    refine va_sld hx hb hX hbl hbA hS (show vp_in 2 6 from zx (n := 2) rfl (by decide) (by decide)) dL_law_168 ?_
    refine y_num (b := (xs 2)) (show xs 2 = (xs 2) from rfl) ?_
    refine lv_aload_n hx hb dL_law_169 rfl (lv_at hl 4 rfl) ?_
    refine lv_iload hx hb dL_law_170 (lv_at hl 0 rfl) ?_
    refine lv_iconst (v := 3) hx hb dL_law_172 (by decide) ?_
    refine lv_iadd hx hb dL_law_173 ?_
    refine y_num (b := 3) (by decide) ?_
    refine va_sld hx hb hX hbl hbA hS (show vp_in 3 6 from zx (n := 3) rfl (by decide) (by decide)) dL_law_174 ?_
    refine y_num (b := (xs 3)) (show xs 3 = (xs 3) from rfl) ?_
    refine lv_aload_n hx hb dL_law_175 rfl (lv_at hl 4 rfl) ?_
    refine lv_iload hx hb dL_law_176 (lv_at hl 0 rfl) ?_
    refine lv_iconst (v := 4) hx hb dL_law_178 (by decide) ?_
    refine lv_iadd hx hb dL_law_179 ?_
    refine y_num (b := 4) (by decide) ?_
    refine va_sld hx hb hX hbl hbA hS (show vp_in 4 6 from zx (n := 4) rfl (by decide) (by decide)) dL_law_180 ?_
    refine y_num (b := (xs 4)) (show xs 4 = (xs 4) from rfl) ?_
    refine lv_aload_n hx hb dL_law_181 rfl (lv_at hl 4 rfl) ?_
    refine lv_iload hx hb dL_law_182 (lv_at hl 0 rfl) ?_
    refine lv_iconst (v := 5) hx hb dL_law_184 (by decide) ?_
    refine lv_iadd hx hb dL_law_185 ?_
    refine y_num (b := 5) (by decide) ?_
    refine va_sld hx hb hX hbl hbA hS (show vp_in 5 6 from zx (n := 5) rfl (by decide) (by decide)) dL_law_186 ?_
    refine y_num (b := (xs 5)) (show xs 5 = (xs 5) from rfl) ?_
    refine lv_aload_n hx hb dL_law_187 rfl (lv_at hl 1 rfl) ?_
    refine z_cWx (D := (dC, dI)) (cl := vwCl) (tys := lt9 ca) (nw := zw_nest) (av := [.ref sf, .int (xs 1), .int (xs 2), .int (xs 3), .int (xs 4), .int (xs 5), .ref ob]) (rest := []) ⟨hx, hb, hml, hown, hts⟩ (m_L_blockx l hl9 dC dI ca sf ad ad2 ob zMi zMi (xs 1) (xs 2) (xs 3) (xs 4) (xs 5) h) (vx_cwSW 7 hts gL_law_L_block rfl rfl rfl (by decide +kernel) ⟨Nat.le_of_ble_eq_true rfl, Nat.le_of_ble_eq_true rfl⟩) ⟨hT, hC1, hC2⟩ hK hN hEx zw_nest_ok rfl hl.1 rfl (Nat.le_of_ble_eq_true rfl) dL_law_188 ⟨(by show 146 + 1 ≤ 656031; omega), (by show 780 + 6 ≤ 7134144; omega)⟩ hS (fun H locs oq1 hz1 hS => ?_)
    have hMo := va_at.kept hMo (oq1 _ (va_at.lt hMo))
    have hR := hR.kept (fun i hi => oq1 _ (hR.lt hi))
    have hO := va_at.kept hO (oq1 _ (va_at.lt hO))
    refine lv_istore (lv' := [(5, .int 1), (4, .int 0), (3, .ref ob), (2, .ref mo), (1, .ref sf), (0, .ref b)]) hx hb dL_law_191 hl (by decide) rfl (fun ls hl => ?_)
    refine lv_aload_n hx hb dL_law_193 rfl (lv_at hl 3 rfl) ?_
    refine lv_aload_n hx hb dL_law_194 rfl (lv_at hl 5 rfl) ?_
    refine lv_iload hx hb dL_law_195 (lv_at hl 1 rfl) ?_
    refine lv_iconst (v := 1) hx hb dL_law_197 (by decide) ?_
    refine lv_iadd hx hb dL_law_198 ?_
    refine y_num (b := 1) (by decide) ?_
    refine va_sld hx hb hX hbl hbA hS (show vp_in 1 6 from zx (n := 1) rfl (by decide) (by decide)) dL_law_199 ?_
    refine y_num (b := (xs 1)) (show xs 1 = (xs 1) from rfl) ?_
    refine lv_aload_n hx hb dL_law_200 rfl (lv_at hl 5 rfl) ?_
    refine lv_iload hx hb dL_law_201 (lv_at hl 1 rfl) ?_
    refine lv_iconst (v := 2) hx hb dL_law_203 (by decide) ?_
    refine lv_iadd hx hb dL_law_204 ?_
    refine y_num (b := 2) (by decide) ?_
    refine va_sld hx hb hX hbl hbA hS (show vp_in 2 6 from zx (n := 2) rfl (by decide) (by decide)) dL_law_205 ?_
    refine y_num (b := (xs 2)) (show xs 2 = (xs 2) from rfl) ?_
    refine lv_aload_n hx hb dL_law_206 rfl (lv_at hl 5 rfl) ?_
    refine lv_iload hx hb dL_law_207 (lv_at hl 1 rfl) ?_
    refine lv_iconst (v := 3) hx hb dL_law_209 (by decide) ?_
    refine lv_iadd hx hb dL_law_210 ?_
    refine y_num (b := 3) (by decide) ?_
    refine va_sld hx hb hX hbl hbA hS (show vp_in 3 6 from zx (n := 3) rfl (by decide) (by decide)) dL_law_211 ?_
    refine y_num (b := (xs 3)) (show xs 3 = (xs 3) from rfl) ?_
    refine lv_aload_n hx hb dL_law_212 rfl (lv_at hl 5 rfl) ?_
    refine lv_iload hx hb dL_law_213 (lv_at hl 1 rfl) ?_
    refine lv_iconst (v := 4) hx hb dL_law_215 (by decide) ?_
    refine lv_iadd hx hb dL_law_216 ?_
    refine y_num (b := 4) (by decide) ?_
    refine va_sld hx hb hX hbl hbA hS (show vp_in 4 6 from zx (n := 4) rfl (by decide) (by decide)) dL_law_217 ?_
    refine y_num (b := (xs 4)) (show xs 4 = (xs 4) from rfl) ?_
    refine lv_aload_n hx hb dL_law_218 rfl (lv_at hl 5 rfl) ?_
    refine lv_iload hx hb dL_law_219 (lv_at hl 1 rfl) ?_
    refine lv_iconst (v := 5) hx hb dL_law_221 (by decide) ?_
    refine lv_iadd hx hb dL_law_222 ?_
    refine y_num (b := 5) (by decide) ?_
    refine va_sld hx hb hX hbl hbA hS (show vp_in 5 6 from zx (n := 5) rfl (by decide) (by decide)) dL_law_223 ?_
    refine y_num (b := (xs 5)) (show xs 5 = (xs 5) from rfl) ?_
    refine y_cVi (D := (dC, dI)) (cl := vwCl) (tys := yt ca) (nw := zw_nest) (C := RX10) (As := [.int (xs 1), .int (xs 2), .int (xs 3), .int (xs 4), .int (xs 5)]) (rest := []) ⟨hx, hb, hml, hown, hts⟩ (m_X10_blockn l dC dI ca mo _ ar hIr hmr 0 0 (xs 1) (xs 2) (xs 3) (xs 4) (xs 5) h) (cwV 5 hts gL_law_X10_block rfl rfl rfl (by decide +kernel) ⟨Nat.le_of_ble_eq_true rfl, Nat.le_of_ble_eq_true rfl⟩) (va_recv hK9 (y_one hMo) (ci := 10) rfl (q0 := 0) rfl) ⟨rfl, hMo, hR⟩ hK9 hN hAO zw_nest_ok rfl hl.1 rfl (Nat.le_of_ble_eq_true rfl) dL_law_224 ⟨(by show 147 + 0 ≤ 656031; omega), (by show 786 + 0 ≤ 7134144; omega)⟩ hS (yA_law hmo (fun i hi => Nat.le_trans hmo (Nat.le_of_lt (hrb i hi).1)) hS.1) (fun H locs hB1 oq1 hz1 hS => ?_)
    have hO := va_at.kept hO (oq1 _ (va_at.lt hO) (yA_ob hob hrb (va_at.lt hO)))
    obtain ⟨hMo, hR⟩ := hB1
    refine lv_istore (lv' := [(6, .int 0), (5, .int 1), (4, .int 0), (3, .ref ob), (2, .ref mo), (1, .ref sf), (0, .ref b)]) hx hb dL_law_227 hl (by decide) rfl (fun ls hl => ?_)
    refine lv_aload_n hx hb dL_law_229 rfl (lv_at hl 4 rfl) ?_
    refine y_cVi (D := (dC, dI)) (cl := vwCl) (tys := yt ca) (nw := zw_nest) (C := RX10) (As := []) (rest := []) ⟨hx, hb, hml, hown, hts⟩ (m_X10_thrown0 l dC dI ca mo (ar 0) 1 0) (cwV 0 hts gL_law_X10_thrown rfl rfl rfl (by decide +kernel) ⟨Nat.le_of_ble_eq_true rfl, Nat.le_of_ble_eq_true rfl⟩) (va_recv hK9 (y_one hMo) (ci := 10) rfl (q0 := 0) rfl) hMo hK9 hN hAO zw_nest_ok rfl hl.1 rfl (Nat.le_of_ble_eq_true rfl) dL_law_230 ⟨(by show 147 + 0 ≤ 656031; omega), (by show 786 + 0 ≤ 7134144; omega)⟩ hS (fun _ h => h.elim) (fun H locs hB1 oq1 hz1 hS => ?_)
    have hO := va_at.kept hO (oq1 _ (va_at.lt hO) (fun h => h))
    refine lv_iload hx hb dL_law_233 (lv_at hl 1 rfl) ?_
    refine lv_icmp_eq (tgt := 240) hx hb dL_law_235 (by decide) (fun _ => ?_) (fun c9 => absurd rfl c9)
    refine lv_iload hx hb dL_law_240 (lv_at hl 1 rfl) ?_
    refine lv_if_ne (tgt := 257) hx hb dL_law_242 (by decide) (fun _ => ?_) (fun c9 => absurd c9 (by decide))
    refine lv_goto (tgt := 1716) hx hb dL_law_257 (by decide) ?_
    refine W.widen (k := 656031) (n := 7134144) (by show 147 ≤ 656031; omega) (by show 786 ≤ 7134144; omega) ?_
    exact hJ _ _ _ (lv_sub hl [2, 3, 4, 5, 6] rfl) hS
set_option maxHeartbeats 4000000 in
set_option maxRecDepth 100000 in
theorem la_face {p : Program} {e : Env} {s : State} {m : MethodId} {below : List Frame} {meth : Method} {c : Code} {Q : State → Prop} (l : Launch) (hl9 : l.stackTraces = false) {b : Nat} {xs : Nat → Int32} (dC : Nat → ClassId) (dI : Nat → Nat → Nat) (ca : Nat → ClassId)
    (hx : p.tables.exec = Jvm.exec) (hb : c.code = cL_law) (hml : c.maxLocals = 9) (hown : s.vm.findClass RL = some m.cls) (hts : ∀ w ∈ wsL_law, w.before #[Value.ref b] s = true) (hX : va_X b 6 xs s s.heap) (hbl : b < s.heap.size) (hK : va_K (dC, dI) vwCl (lt9 ca) s) (hN : z_N zw_nest s) (hAO : va_AOA .int s) (hEx : zEx9 (fun q => s.heap.size ≤ q) s)
    (sf mo ob : Nat) (ad ad2 ar : Nat → Nat) (hI : z_I zd ad) (hI2 : z_I zd ad2) (hq : zSep sf ad ad2) (hA2 : ∀ q, zA2 ad ad2 q → s.heap.size ≤ q ∧ q < mo) (hIr : z_I yd ar) (hrb : ∀ i, yd.1 i < 200 → mo < ar i ∧ ar i < ob) (hmo : s.heap.size ≤ mo) (hob : mo < ob)
    (H : Heap) (locs : List Loc) (ls : Array Slot) (hl : lv_has ls 9 [(4, .int 0), (3, .ref ob), (2, .ref mo), (1, .ref sf), (0, .ref b)]) (hT : zT dC dI ca sf (ad 0) (ad2 0) H) (hC1 : zW dC dI ca ad zMi H) (hC2 : zW dC dI ca ad2 zMi H) (hMo : yMo dC dI mo 0 (ar 0) 0 H) (hR : yW dC dI ca ar (yM 0) H) (hO : yO dC dI ca ob (fun _ => 0) H) (hS : va_S (fun q => s.heap.size ≤ q) s.heap H locs)
    (hJ : ∀ (H : Heap) (locs : List Loc) (ls : Array Slot), lv_has ls 9 [(4, .int 0), (3, .ref ob), (2, .ref mo), (1, .ref sf), (0, .ref b)] → va_S (fun q => s.heap.size ≤ q) s.heap H locs → W p l e room_1 s m #[Value.ref b] below meth c H locs 656031 7134144 Q (F0 m 1716 ls [])) : W p l e room_1 s m #[Value.ref b] below meth c H locs 146 780 Q (F0 m 260 ls []) := by
  have hbA : ¬ (fun q => s.heap.size ≤ q) b := Nat.not_le.mpr hbl
  have hK5 : va_K (dC, dI) vwCl (zt ca) s := va_K.sub hK [0, 1, 2, 3, 4] rfl
  have hK9 : va_K (dC, dI) vwCl (yt ca) s := va_K.sub hK [0, 5] rfl
  have hmr : ∀ i, yd.1 i < 200 → ar i ≠ mo := fun i hi => by have h1 := hrb i hi; omega
  have hob2 : ¬ zA2 ad ad2 ob := fun h => by have h1 := hA2 _ h; omega
  have hAz : ∀ q, zA2 ad ad2 q → (fun q => s.heap.size ≤ q) q := fun q h => (hA2 q h).1
  have hAo : ∀ q, zAo ad ad2 ob q → (fun q => s.heap.size ≤ q) q := by
    rintro q (h | h)
    · exact (hA2 q h).1
    · rw [h]; show s.heap.size ≤ ob; omega
  have hmoA : ¬ zAo ad ad2 ob mo := by
    rintro (h | h)
    · have h1 := hA2 _ h; omega
    · omega
  have hrA : ∀ i, yd.1 i < 200 → ¬ zAo ad ad2 ob (ar i) := fun i hi => by
    have h2 := hrb i hi
    rintro (h | h)
    · have h1 := hA2 _ h; omega
    · omega
  refine lv_aload_n hx hb dL_law_260 rfl (lv_at hl 3 rfl) ?_
  refine lv_aload_n hx hb dL_law_261 rfl (lv_at hl 4 rfl) ?_
  refine lv_iload hx hb dL_law_262 (lv_at hl 0 rfl) ?_
  refine lv_iconst (v := 1) hx hb dL_law_264 (by decide) ?_
  refine lv_iadd hx hb dL_law_265 ?_
  refine y_num (b := 1) (by decide) ?_
  refine va_sld hx hb hX hbl hbA hS (show vp_in 1 6 from zx (n := 1) rfl (by decide) (by decide)) dL_law_266 ?_
  refine y_num (b := (xs 1)) (show xs 1 = (xs 1) from rfl) ?_
  refine lv_aload_n hx hb dL_law_267 rfl (lv_at hl 4 rfl) ?_
  refine lv_iload hx hb dL_law_268 (lv_at hl 0 rfl) ?_
  refine lv_iconst (v := 2) hx hb dL_law_270 (by decide) ?_
  refine lv_iadd hx hb dL_law_271 ?_
  refine y_num (b := 2) (by decide) ?_
  refine va_sld hx hb hX hbl hbA hS (show vp_in 2 6 from zx (n := 2) rfl (by decide) (by decide)) dL_law_272 ?_
  refine y_num (b := (xs 2)) (show xs 2 = (xs 2) from rfl) ?_
  refine lv_aload_n hx hb dL_law_273 rfl (lv_at hl 4 rfl) ?_
  refine lv_iload hx hb dL_law_274 (lv_at hl 0 rfl) ?_
  refine lv_iconst (v := 3) hx hb dL_law_276 (by decide) ?_
  refine lv_iadd hx hb dL_law_277 ?_
  refine y_num (b := 3) (by decide) ?_
  refine va_sld hx hb hX hbl hbA hS (show vp_in 3 6 from zx (n := 3) rfl (by decide) (by decide)) dL_law_278 ?_
  refine y_num (b := (xs 3)) (show xs 3 = (xs 3) from rfl) ?_
  refine lv_aload_n hx hb dL_law_279 rfl (lv_at hl 1 rfl) ?_
  refine z_cWx (D := (dC, dI)) (cl := vwCl) (tys := lt9 ca) (nw := zw_nest) (av := [.ref sf, .int (xs 1), .int (xs 2), .int (xs 3), .ref ob]) (rest := []) ⟨hx, hb, hml, hown, hts⟩ (m_L_facex l hl9 dC dI ca sf ad ad2 ob zMi zMi (xs 1) (xs 2) (xs 3) (z_ni0 _)) (vx_cwSW 5 hts gL_law_L_face rfl rfl rfl (by decide +kernel) ⟨Nat.le_of_ble_eq_true rfl, Nat.le_of_ble_eq_true rfl⟩) ⟨hT, hC1, hC2⟩ hK hN hEx zw_nest_ok rfl hl.1 rfl (Nat.le_of_ble_eq_true rfl) dL_law_280 ⟨(by show 146 + 1 ≤ 656031; omega), (by show 780 + 6 ≤ 7134144; omega)⟩ hS (fun H locs oq1 hz1 hS => ?_)
  have hMo := va_at.kept hMo (oq1 _ (va_at.lt hMo))
  have hR := hR.kept (fun i hi => oq1 _ (hR.lt hi))
  have hO := va_at.kept hO (oq1 _ (va_at.lt hO))
  refine lv_istore (lv' := [(5, .int 1), (4, .int 0), (3, .ref ob), (2, .ref mo), (1, .ref sf), (0, .ref b)]) hx hb dL_law_283 hl (by decide) rfl (fun ls hl => ?_)
  refine lv_aload_n hx hb dL_law_285 rfl (lv_at hl 3 rfl) ?_
  refine lv_aload_n hx hb dL_law_286 rfl (lv_at hl 5 rfl) ?_
  refine lv_iload hx hb dL_law_287 (lv_at hl 1 rfl) ?_
  refine lv_iconst (v := 1) hx hb dL_law_289 (by decide) ?_
  refine lv_iadd hx hb dL_law_290 ?_
  refine y_num (b := 1) (by decide) ?_
  refine va_sld hx hb hX hbl hbA hS (show vp_in 1 6 from zx (n := 1) rfl (by decide) (by decide)) dL_law_291 ?_
  refine y_num (b := (xs 1)) (show xs 1 = (xs 1) from rfl) ?_
  refine lv_aload_n hx hb dL_law_292 rfl (lv_at hl 5 rfl) ?_
  refine lv_iload hx hb dL_law_293 (lv_at hl 1 rfl) ?_
  refine lv_iconst (v := 2) hx hb dL_law_295 (by decide) ?_
  refine lv_iadd hx hb dL_law_296 ?_
  refine y_num (b := 2) (by decide) ?_
  refine va_sld hx hb hX hbl hbA hS (show vp_in 2 6 from zx (n := 2) rfl (by decide) (by decide)) dL_law_297 ?_
  refine y_num (b := (xs 2)) (show xs 2 = (xs 2) from rfl) ?_
  refine lv_aload_n hx hb dL_law_298 rfl (lv_at hl 5 rfl) ?_
  refine lv_iload hx hb dL_law_299 (lv_at hl 1 rfl) ?_
  refine lv_iconst (v := 3) hx hb dL_law_301 (by decide) ?_
  refine lv_iadd hx hb dL_law_302 ?_
  refine y_num (b := 3) (by decide) ?_
  refine va_sld hx hb hX hbl hbA hS (show vp_in 3 6 from zx (n := 3) rfl (by decide) (by decide)) dL_law_303 ?_
  refine y_num (b := (xs 3)) (show xs 3 = (xs 3) from rfl) ?_
  refine y_cVi (D := (dC, dI)) (cl := vwCl) (tys := yt ca) (nw := zw_nest) (C := RX10) (As := [.int (xs 1), .int (xs 2), .int (xs 3)]) (rest := []) ⟨hx, hb, hml, hown, hts⟩ (m_X10_face l dC dI ca mo _ ar hIr hmr 0 0 (xs 1) (xs 2) (xs 3) ) (cwV 3 hts gL_law_X10_face rfl rfl rfl (by decide +kernel) ⟨Nat.le_of_ble_eq_true rfl, Nat.le_of_ble_eq_true rfl⟩) (va_recv hK9 (y_one hMo) (ci := 10) rfl (q0 := 0) rfl) ⟨rfl, hMo, hR⟩ hK9 hN hAO zw_nest_ok rfl hl.1 rfl (Nat.le_of_ble_eq_true rfl) dL_law_304 ⟨(by show 147 + 0 ≤ 656031; omega), (by show 786 + 0 ≤ 7134144; omega)⟩ hS (yA_law hmo (fun i hi => Nat.le_trans hmo (Nat.le_of_lt (hrb i hi).1)) hS.1) (fun H locs hB1 oq1 hz1 hS => ?_)
  have hO := va_at.kept hO (oq1 _ (va_at.lt hO) (yA_ob hob hrb (va_at.lt hO)))
  obtain ⟨hMo, hR⟩ := hB1
  refine lv_istore (lv' := [(6, .int 0), (5, .int 1), (4, .int 0), (3, .ref ob), (2, .ref mo), (1, .ref sf), (0, .ref b)]) hx hb dL_law_307 hl (by decide) rfl (fun ls hl => ?_)
  refine lv_aload_n hx hb dL_law_309 rfl (lv_at hl 4 rfl) ?_
  refine y_cVi (D := (dC, dI)) (cl := vwCl) (tys := yt ca) (nw := zw_nest) (C := RX10) (As := []) (rest := []) ⟨hx, hb, hml, hown, hts⟩ (m_X10_thrown0 l dC dI ca mo (ar 0) 1 0) (cwV 0 hts gL_law_X10_thrown rfl rfl rfl (by decide +kernel) ⟨Nat.le_of_ble_eq_true rfl, Nat.le_of_ble_eq_true rfl⟩) (va_recv hK9 (y_one hMo) (ci := 10) rfl (q0 := 0) rfl) hMo hK9 hN hAO zw_nest_ok rfl hl.1 rfl (Nat.le_of_ble_eq_true rfl) dL_law_310 ⟨(by show 147 + 0 ≤ 656031; omega), (by show 786 + 0 ≤ 7134144; omega)⟩ hS (fun _ h => h.elim) (fun H locs hB1 oq1 hz1 hS => ?_)
  have hO := va_at.kept hO (oq1 _ (va_at.lt hO) (fun h => h))
  refine lv_iload hx hb dL_law_313 (lv_at hl 1 rfl) ?_
  refine lv_icmp_eq (tgt := 320) hx hb dL_law_315 (by decide) (fun _ => ?_) (fun c9 => absurd rfl c9)
  refine lv_iload hx hb dL_law_320 (lv_at hl 1 rfl) ?_
  refine lv_if_ne (tgt := 337) hx hb dL_law_322 (by decide) (fun _ => ?_) (fun c9 => absurd c9 (by decide))
  refine lv_goto (tgt := 1716) hx hb dL_law_337 (by decide) ?_
  refine W.widen (k := 656031) (n := 7134144) (by show 147 ≤ 656031; omega) (by show 786 ≤ 7134144; omega) ?_
  exact hJ _ _ _ (lv_sub hl [2, 3, 4, 5, 6] rfl) hS
set_option maxHeartbeats 4000000 in
set_option maxRecDepth 100000 in
theorem la_well {p : Program} {e : Env} {s : State} {m : MethodId} {below : List Frame} {meth : Method} {c : Code} {Q : State → Prop} (l : Launch) (hl9 : l.stackTraces = false) {b : Nat} {xs : Nat → Int32} (dC : Nat → ClassId) (dI : Nat → Nat → Nat) (ca : Nat → ClassId)
    (hx : p.tables.exec = Jvm.exec) (hb : c.code = cL_law) (hml : c.maxLocals = 9) (hown : s.vm.findClass RL = some m.cls) (hts : ∀ w ∈ wsL_law, w.before #[Value.ref b] s = true) (hX : va_X b 6 xs s s.heap) (hbl : b < s.heap.size) (hK : va_K (dC, dI) vwCl (lt9 ca) s) (hN : z_N zw_nest s) (hAO : va_AOA .int s) (hEx : zEx9 (fun q => s.heap.size ≤ q) s)
    (sf mo ob : Nat) (ad ad2 ar : Nat → Nat) (hI : z_I zd ad) (hI2 : z_I zd ad2) (hq : zSep sf ad ad2) (hA2 : ∀ q, zA2 ad ad2 q → s.heap.size ≤ q ∧ q < mo) (hIr : z_I yd ar) (hrb : ∀ i, yd.1 i < 200 → mo < ar i ∧ ar i < ob) (hmo : s.heap.size ≤ mo) (hob : mo < ob)
    (H : Heap) (locs : List Loc) (ls : Array Slot) (hl : lv_has ls 9 [(4, .int 0), (3, .ref ob), (2, .ref mo), (1, .ref sf), (0, .ref b)]) (hT : zT dC dI ca sf (ad 0) (ad2 0) H) (hC1 : zW dC dI ca ad zMi H) (hC2 : zW dC dI ca ad2 zMi H) (hMo : yMo dC dI mo 0 (ar 0) 0 H) (hR : yW dC dI ca ar (yM 0) H) (hO : yO dC dI ca ob (fun _ => 0) H) (hS : va_S (fun q => s.heap.size ≤ q) s.heap H locs)
    (hJ : ∀ (H : Heap) (locs : List Loc) (ls : Array Slot), lv_has ls 9 [(4, .int 0), (3, .ref ob), (2, .ref mo), (1, .ref sf), (0, .ref b)] → va_S (fun q => s.heap.size ≤ q) s.heap H locs → W p l e room_1 s m #[Value.ref b] below meth c H locs 656031 7134144 Q (F0 m 1716 ls [])) : W p l e room_1 s m #[Value.ref b] below meth c H locs 146 780 Q (F0 m 340 ls []) := by
  have hbA : ¬ (fun q => s.heap.size ≤ q) b := Nat.not_le.mpr hbl
  have hK5 : va_K (dC, dI) vwCl (zt ca) s := va_K.sub hK [0, 1, 2, 3, 4] rfl
  have hK9 : va_K (dC, dI) vwCl (yt ca) s := va_K.sub hK [0, 5] rfl
  have hmr : ∀ i, yd.1 i < 200 → ar i ≠ mo := fun i hi => by have h1 := hrb i hi; omega
  have hob2 : ¬ zA2 ad ad2 ob := fun h => by have h1 := hA2 _ h; omega
  have hAz : ∀ q, zA2 ad ad2 q → (fun q => s.heap.size ≤ q) q := fun q h => (hA2 q h).1
  have hAo : ∀ q, zAo ad ad2 ob q → (fun q => s.heap.size ≤ q) q := by
    rintro q (h | h)
    · exact (hA2 q h).1
    · rw [h]; show s.heap.size ≤ ob; omega
  have hmoA : ¬ zAo ad ad2 ob mo := by
    rintro (h | h)
    · have h1 := hA2 _ h; omega
    · omega
  have hrA : ∀ i, yd.1 i < 200 → ¬ zAo ad ad2 ob (ar i) := fun i hi => by
    have h2 := hrb i hi
    rintro (h | h)
    · have h1 := hA2 _ h; omega
    · omega
  refine lv_aload_n hx hb dL_law_340 rfl (lv_at hl 3 rfl) ?_
  refine lv_aload_n hx hb dL_law_341 rfl (lv_at hl 4 rfl) ?_
  refine lv_iload hx hb dL_law_342 (lv_at hl 0 rfl) ?_
  refine lv_iconst (v := 1) hx hb dL_law_344 (by decide) ?_
  refine lv_iadd hx hb dL_law_345 ?_
  refine y_num (b := 1) (by decide) ?_
  refine va_sld hx hb hX hbl hbA hS (show vp_in 1 6 from zx (n := 1) rfl (by decide) (by decide)) dL_law_346 ?_
  refine y_num (b := (xs 1)) (show xs 1 = (xs 1) from rfl) ?_
  refine lv_aload_n hx hb dL_law_347 rfl (lv_at hl 4 rfl) ?_
  refine lv_iload hx hb dL_law_348 (lv_at hl 0 rfl) ?_
  refine lv_iconst (v := 2) hx hb dL_law_350 (by decide) ?_
  refine lv_iadd hx hb dL_law_351 ?_
  refine y_num (b := 2) (by decide) ?_
  refine va_sld hx hb hX hbl hbA hS (show vp_in 2 6 from zx (n := 2) rfl (by decide) (by decide)) dL_law_352 ?_
  refine y_num (b := (xs 2)) (show xs 2 = (xs 2) from rfl) ?_
  refine lv_if_eq (tgt := 360) hx hb dL_law_353 (by decide) (fun z0 => ?_) (fun z0 => ?_)
  · refine lv_iconst (v := 0) hx hb dL_law_360 (by decide) ?_
    refine lv_aload_n hx hb dL_law_361 rfl (lv_at hl 1 rfl) ?_
    refine z_cWx (D := (dC, dI)) (cl := vwCl) (tys := lt9 ca) (nw := zw_nest) (av := [.ref sf, .int (xs 1), .int 0, .ref ob]) (rest := []) ⟨hx, hb, hml, hown, hts⟩ (m_L_wellx l hl9 dC dI ca sf ad ad2 ob zMi zMi (xs 1) 0 (z_ni0 _)) (vx_cwSW 4 hts gL_law_L_well rfl rfl rfl (by decide +kernel) ⟨Nat.le_of_ble_eq_true rfl, Nat.le_of_ble_eq_true rfl⟩) ⟨hT, hC1, hC2⟩ hK hN hEx zw_nest_ok rfl hl.1 rfl (Nat.le_of_ble_eq_true rfl) dL_law_362 ⟨(by show 146 + 1 ≤ 656031; omega), (by show 780 + 6 ≤ 7134144; omega)⟩ hS (fun H locs oq1 hz1 hS => ?_)
    have hMo := va_at.kept hMo (oq1 _ (va_at.lt hMo))
    have hR := hR.kept (fun i hi => oq1 _ (hR.lt hi))
    have hO := va_at.kept hO (oq1 _ (va_at.lt hO))
    refine lv_istore (lv' := [(5, .int 1), (4, .int 0), (3, .ref ob), (2, .ref mo), (1, .ref sf), (0, .ref b)]) hx hb dL_law_365 hl (by decide) rfl (fun ls hl => ?_)
    refine lv_aload_n hx hb dL_law_367 rfl (lv_at hl 3 rfl) ?_
    refine lv_aload_n hx hb dL_law_368 rfl (lv_at hl 5 rfl) ?_
    refine lv_iload hx hb dL_law_369 (lv_at hl 1 rfl) ?_
    refine lv_iconst (v := 1) hx hb dL_law_371 (by decide) ?_
    refine lv_iadd hx hb dL_law_372 ?_
    refine y_num (b := 1) (by decide) ?_
    refine va_sld hx hb hX hbl hbA hS (show vp_in 1 6 from zx (n := 1) rfl (by decide) (by decide)) dL_law_373 ?_
    refine y_num (b := (xs 1)) (show xs 1 = (xs 1) from rfl) ?_
    refine lv_aload_n hx hb dL_law_374 rfl (lv_at hl 5 rfl) ?_
    refine lv_iload hx hb dL_law_375 (lv_at hl 1 rfl) ?_
    refine lv_iconst (v := 2) hx hb dL_law_377 (by decide) ?_
    refine lv_iadd hx hb dL_law_378 ?_
    refine y_num (b := 2) (by decide) ?_
    refine va_sld hx hb hX hbl hbA hS (show vp_in 2 6 from zx (n := 2) rfl (by decide) (by decide)) dL_law_379 ?_
    refine y_num (b := (xs 2)) (show xs 2 = (xs 2) from rfl) ?_
    refine lv_if_eq (tgt := 387) hx hb dL_law_380 (by decide) (fun _ => ?_) (fun c9 => absurd z0 c9)
    refine lv_iconst (v := 0) hx hb dL_law_387 (by decide) ?_
    refine y_cVi (D := (dC, dI)) (cl := vwCl) (tys := yt ca) (nw := zw_nest) (C := RX10) (As := [.int (xs 1), .int 0]) (rest := []) ⟨hx, hb, hml, hown, hts⟩ (m_X10_well l dC dI ca mo _ ar hIr hmr 0 0 (xs 1) 0 ) (cwV 2 hts gL_law_X10_well rfl rfl rfl (by decide +kernel) ⟨Nat.le_of_ble_eq_true rfl, Nat.le_of_ble_eq_true rfl⟩) (va_recv hK9 (y_one hMo) (ci := 10) rfl (q0 := 0) rfl) ⟨rfl, hMo, hR⟩ hK9 hN hAO zw_nest_ok rfl hl.1 rfl (Nat.le_of_ble_eq_true rfl) dL_law_388 ⟨(by show 147 + 0 ≤ 656031; omega), (by show 786 + 0 ≤ 7134144; omega)⟩ hS (yA_law hmo (fun i hi => Nat.le_trans hmo (Nat.le_of_lt (hrb i hi).1)) hS.1) (fun H locs hB1 oq1 hz1 hS => ?_)
    have hO := va_at.kept hO (oq1 _ (va_at.lt hO) (yA_ob hob hrb (va_at.lt hO)))
    obtain ⟨hMo, hR⟩ := hB1
    refine lv_istore (lv' := [(6, .int 0), (5, .int 1), (4, .int 0), (3, .ref ob), (2, .ref mo), (1, .ref sf), (0, .ref b)]) hx hb dL_law_391 hl (by decide) rfl (fun ls hl => ?_)
    refine lv_aload_n hx hb dL_law_393 rfl (lv_at hl 4 rfl) ?_
    refine y_cVi (D := (dC, dI)) (cl := vwCl) (tys := yt ca) (nw := zw_nest) (C := RX10) (As := []) (rest := []) ⟨hx, hb, hml, hown, hts⟩ (m_X10_thrown0 l dC dI ca mo (ar 0) 1 0) (cwV 0 hts gL_law_X10_thrown rfl rfl rfl (by decide +kernel) ⟨Nat.le_of_ble_eq_true rfl, Nat.le_of_ble_eq_true rfl⟩) (va_recv hK9 (y_one hMo) (ci := 10) rfl (q0 := 0) rfl) hMo hK9 hN hAO zw_nest_ok rfl hl.1 rfl (Nat.le_of_ble_eq_true rfl) dL_law_394 ⟨(by show 147 + 0 ≤ 656031; omega), (by show 786 + 0 ≤ 7134144; omega)⟩ hS (fun _ h => h.elim) (fun H locs hB1 oq1 hz1 hS => ?_)
    have hO := va_at.kept hO (oq1 _ (va_at.lt hO) (fun h => h))
    refine lv_iload hx hb dL_law_397 (lv_at hl 1 rfl) ?_
    refine lv_icmp_eq (tgt := 404) hx hb dL_law_399 (by decide) (fun _ => ?_) (fun c9 => absurd rfl c9)
    refine lv_iload hx hb dL_law_404 (lv_at hl 1 rfl) ?_
    refine lv_if_ne (tgt := 421) hx hb dL_law_406 (by decide) (fun _ => ?_) (fun c9 => absurd c9 (by decide))
    refine lv_goto (tgt := 1716) hx hb dL_law_421 (by decide) ?_
    refine W.widen (k := 656031) (n := 7134144) (by show 147 ≤ 656031; omega) (by show 786 ≤ 7134144; omega) ?_
    exact hJ _ _ _ (lv_sub hl [2, 3, 4, 5, 6] rfl) hS
  · refine lv_iconst (v := 1) hx hb dL_law_356 (by decide) ?_
    refine lv_goto (tgt := 361) hx hb dL_law_357 (by decide) ?_
    refine lv_aload_n hx hb dL_law_361 rfl (lv_at hl 1 rfl) ?_
    refine z_cWx (D := (dC, dI)) (cl := vwCl) (tys := lt9 ca) (nw := zw_nest) (av := [.ref sf, .int (xs 1), .int 1, .ref ob]) (rest := []) ⟨hx, hb, hml, hown, hts⟩ (m_L_wellx l hl9 dC dI ca sf ad ad2 ob zMi zMi (xs 1) 1 (z_ni0 _)) (vx_cwSW 4 hts gL_law_L_well rfl rfl rfl (by decide +kernel) ⟨Nat.le_of_ble_eq_true rfl, Nat.le_of_ble_eq_true rfl⟩) ⟨hT, hC1, hC2⟩ hK hN hEx zw_nest_ok rfl hl.1 rfl (Nat.le_of_ble_eq_true rfl) dL_law_362 ⟨(by show 146 + 1 ≤ 656031; omega), (by show 780 + 6 ≤ 7134144; omega)⟩ hS (fun H locs oq1 hz1 hS => ?_)
    have hMo := va_at.kept hMo (oq1 _ (va_at.lt hMo))
    have hR := hR.kept (fun i hi => oq1 _ (hR.lt hi))
    have hO := va_at.kept hO (oq1 _ (va_at.lt hO))
    refine lv_istore (lv' := [(5, .int 1), (4, .int 0), (3, .ref ob), (2, .ref mo), (1, .ref sf), (0, .ref b)]) hx hb dL_law_365 hl (by decide) rfl (fun ls hl => ?_)
    refine lv_aload_n hx hb dL_law_367 rfl (lv_at hl 3 rfl) ?_
    refine lv_aload_n hx hb dL_law_368 rfl (lv_at hl 5 rfl) ?_
    refine lv_iload hx hb dL_law_369 (lv_at hl 1 rfl) ?_
    refine lv_iconst (v := 1) hx hb dL_law_371 (by decide) ?_
    refine lv_iadd hx hb dL_law_372 ?_
    refine y_num (b := 1) (by decide) ?_
    refine va_sld hx hb hX hbl hbA hS (show vp_in 1 6 from zx (n := 1) rfl (by decide) (by decide)) dL_law_373 ?_
    refine y_num (b := (xs 1)) (show xs 1 = (xs 1) from rfl) ?_
    refine lv_aload_n hx hb dL_law_374 rfl (lv_at hl 5 rfl) ?_
    refine lv_iload hx hb dL_law_375 (lv_at hl 1 rfl) ?_
    refine lv_iconst (v := 2) hx hb dL_law_377 (by decide) ?_
    refine lv_iadd hx hb dL_law_378 ?_
    refine y_num (b := 2) (by decide) ?_
    refine va_sld hx hb hX hbl hbA hS (show vp_in 2 6 from zx (n := 2) rfl (by decide) (by decide)) dL_law_379 ?_
    refine y_num (b := (xs 2)) (show xs 2 = (xs 2) from rfl) ?_
    refine lv_if_eq (tgt := 387) hx hb dL_law_380 (by decide) (fun c9 => absurd c9 z0) (fun _ => ?_)
    refine lv_iconst (v := 1) hx hb dL_law_383 (by decide) ?_
    refine lv_goto (tgt := 388) hx hb dL_law_384 (by decide) ?_
    refine y_cVi (D := (dC, dI)) (cl := vwCl) (tys := yt ca) (nw := zw_nest) (C := RX10) (As := [.int (xs 1), .int 1]) (rest := []) ⟨hx, hb, hml, hown, hts⟩ (m_X10_well l dC dI ca mo _ ar hIr hmr 0 0 (xs 1) 1 ) (cwV 2 hts gL_law_X10_well rfl rfl rfl (by decide +kernel) ⟨Nat.le_of_ble_eq_true rfl, Nat.le_of_ble_eq_true rfl⟩) (va_recv hK9 (y_one hMo) (ci := 10) rfl (q0 := 0) rfl) ⟨rfl, hMo, hR⟩ hK9 hN hAO zw_nest_ok rfl hl.1 rfl (Nat.le_of_ble_eq_true rfl) dL_law_388 ⟨(by show 147 + 0 ≤ 656031; omega), (by show 786 + 0 ≤ 7134144; omega)⟩ hS (yA_law hmo (fun i hi => Nat.le_trans hmo (Nat.le_of_lt (hrb i hi).1)) hS.1) (fun H locs hB1 oq1 hz1 hS => ?_)
    have hO := va_at.kept hO (oq1 _ (va_at.lt hO) (yA_ob hob hrb (va_at.lt hO)))
    obtain ⟨hMo, hR⟩ := hB1
    refine lv_istore (lv' := [(6, .int 0), (5, .int 1), (4, .int 0), (3, .ref ob), (2, .ref mo), (1, .ref sf), (0, .ref b)]) hx hb dL_law_391 hl (by decide) rfl (fun ls hl => ?_)
    refine lv_aload_n hx hb dL_law_393 rfl (lv_at hl 4 rfl) ?_
    refine y_cVi (D := (dC, dI)) (cl := vwCl) (tys := yt ca) (nw := zw_nest) (C := RX10) (As := []) (rest := []) ⟨hx, hb, hml, hown, hts⟩ (m_X10_thrown0 l dC dI ca mo (ar 0) 1 0) (cwV 0 hts gL_law_X10_thrown rfl rfl rfl (by decide +kernel) ⟨Nat.le_of_ble_eq_true rfl, Nat.le_of_ble_eq_true rfl⟩) (va_recv hK9 (y_one hMo) (ci := 10) rfl (q0 := 0) rfl) hMo hK9 hN hAO zw_nest_ok rfl hl.1 rfl (Nat.le_of_ble_eq_true rfl) dL_law_394 ⟨(by show 147 + 0 ≤ 656031; omega), (by show 786 + 0 ≤ 7134144; omega)⟩ hS (fun _ h => h.elim) (fun H locs hB1 oq1 hz1 hS => ?_)
    have hO := va_at.kept hO (oq1 _ (va_at.lt hO) (fun h => h))
    refine lv_iload hx hb dL_law_397 (lv_at hl 1 rfl) ?_
    refine lv_icmp_eq (tgt := 404) hx hb dL_law_399 (by decide) (fun _ => ?_) (fun c9 => absurd rfl c9)
    refine lv_iload hx hb dL_law_404 (lv_at hl 1 rfl) ?_
    refine lv_if_ne (tgt := 421) hx hb dL_law_406 (by decide) (fun _ => ?_) (fun c9 => absurd c9 (by decide))
    refine lv_goto (tgt := 1716) hx hb dL_law_421 (by decide) ?_
    refine W.widen (k := 656031) (n := 7134144) (by show 147 ≤ 656031; omega) (by show 786 ≤ 7134144; omega) ?_
    exact hJ _ _ _ (lv_sub hl [2, 3, 4, 5, 6] rfl) hS
set_option maxHeartbeats 4000000 in
set_option maxRecDepth 100000 in
theorem la_spring {p : Program} {e : Env} {s : State} {m : MethodId} {below : List Frame} {meth : Method} {c : Code} {Q : State → Prop} (l : Launch) (hl9 : l.stackTraces = false) {b : Nat} {xs : Nat → Int32} (dC : Nat → ClassId) (dI : Nat → Nat → Nat) (ca : Nat → ClassId)
    (hx : p.tables.exec = Jvm.exec) (hb : c.code = cL_law) (hml : c.maxLocals = 9) (hown : s.vm.findClass RL = some m.cls) (hts : ∀ w ∈ wsL_law, w.before #[Value.ref b] s = true) (hX : va_X b 6 xs s s.heap) (hbl : b < s.heap.size) (hK : va_K (dC, dI) vwCl (lt9 ca) s) (hN : z_N zw_nest s) (hAO : va_AOA .int s) (hEx : zEx9 (fun q => s.heap.size ≤ q) s)
    (sf mo ob : Nat) (ad ad2 ar : Nat → Nat) (hI : z_I zd ad) (hI2 : z_I zd ad2) (hq : zSep sf ad ad2) (hA2 : ∀ q, zA2 ad ad2 q → s.heap.size ≤ q ∧ q < mo) (hIr : z_I yd ar) (hrb : ∀ i, yd.1 i < 200 → mo < ar i ∧ ar i < ob) (hmo : s.heap.size ≤ mo) (hob : mo < ob)
    (H : Heap) (locs : List Loc) (ls : Array Slot) (hl : lv_has ls 9 [(4, .int 0), (3, .ref ob), (2, .ref mo), (1, .ref sf), (0, .ref b)]) (hT : zT dC dI ca sf (ad 0) (ad2 0) H) (hC1 : zW dC dI ca ad zMi H) (hC2 : zW dC dI ca ad2 zMi H) (hMo : yMo dC dI mo 0 (ar 0) 0 H) (hR : yW dC dI ca ar (yM 0) H) (hO : yO dC dI ca ob (fun _ => 0) H) (hS : va_S (fun q => s.heap.size ≤ q) s.heap H locs)
    (hJ : ∀ (H : Heap) (locs : List Loc) (ls : Array Slot), lv_has ls 9 [(4, .int 0), (3, .ref ob), (2, .ref mo), (1, .ref sf), (0, .ref b)] → va_S (fun q => s.heap.size ≤ q) s.heap H locs → W p l e room_1 s m #[Value.ref b] below meth c H locs 656031 7134144 Q (F0 m 1716 ls [])) : W p l e room_1 s m #[Value.ref b] below meth c H locs 146 780 Q (F0 m 424 ls []) := by
  have hbA : ¬ (fun q => s.heap.size ≤ q) b := Nat.not_le.mpr hbl
  have hK5 : va_K (dC, dI) vwCl (zt ca) s := va_K.sub hK [0, 1, 2, 3, 4] rfl
  have hK9 : va_K (dC, dI) vwCl (yt ca) s := va_K.sub hK [0, 5] rfl
  have hmr : ∀ i, yd.1 i < 200 → ar i ≠ mo := fun i hi => by have h1 := hrb i hi; omega
  have hob2 : ¬ zA2 ad ad2 ob := fun h => by have h1 := hA2 _ h; omega
  have hAz : ∀ q, zA2 ad ad2 q → (fun q => s.heap.size ≤ q) q := fun q h => (hA2 q h).1
  have hAo : ∀ q, zAo ad ad2 ob q → (fun q => s.heap.size ≤ q) q := by
    rintro q (h | h)
    · exact (hA2 q h).1
    · rw [h]; show s.heap.size ≤ ob; omega
  have hmoA : ¬ zAo ad ad2 ob mo := by
    rintro (h | h)
    · have h1 := hA2 _ h; omega
    · omega
  have hrA : ∀ i, yd.1 i < 200 → ¬ zAo ad ad2 ob (ar i) := fun i hi => by
    have h2 := hrb i hi
    rintro (h | h)
    · have h1 := hA2 _ h; omega
    · omega
  refine lv_aload_n hx hb dL_law_424 rfl (lv_at hl 3 rfl) ?_
  refine lv_aload_n hx hb dL_law_425 rfl (lv_at hl 4 rfl) ?_
  refine lv_iload hx hb dL_law_426 (lv_at hl 0 rfl) ?_
  refine lv_iconst (v := 1) hx hb dL_law_428 (by decide) ?_
  refine lv_iadd hx hb dL_law_429 ?_
  refine y_num (b := 1) (by decide) ?_
  refine va_sld hx hb hX hbl hbA hS (show vp_in 1 6 from zx (n := 1) rfl (by decide) (by decide)) dL_law_430 ?_
  refine y_num (b := (xs 1)) (show xs 1 = (xs 1) from rfl) ?_
  refine lv_aload_n hx hb dL_law_431 rfl (lv_at hl 4 rfl) ?_
  refine lv_iload hx hb dL_law_432 (lv_at hl 0 rfl) ?_
  refine lv_iconst (v := 2) hx hb dL_law_434 (by decide) ?_
  refine lv_iadd hx hb dL_law_435 ?_
  refine y_num (b := 2) (by decide) ?_
  refine va_sld hx hb hX hbl hbA hS (show vp_in 2 6 from zx (n := 2) rfl (by decide) (by decide)) dL_law_436 ?_
  refine y_num (b := (xs 2)) (show xs 2 = (xs 2) from rfl) ?_
  refine lv_aload_n hx hb dL_law_437 rfl (lv_at hl 4 rfl) ?_
  refine lv_iload hx hb dL_law_438 (lv_at hl 0 rfl) ?_
  refine lv_iconst (v := 3) hx hb dL_law_440 (by decide) ?_
  refine lv_iadd hx hb dL_law_441 ?_
  refine y_num (b := 3) (by decide) ?_
  refine va_sld hx hb hX hbl hbA hS (show vp_in 3 6 from zx (n := 3) rfl (by decide) (by decide)) dL_law_442 ?_
  refine y_num (b := (xs 3)) (show xs 3 = (xs 3) from rfl) ?_
  refine lv_aload_n hx hb dL_law_443 rfl (lv_at hl 1 rfl) ?_
  refine z_cWx (D := (dC, dI)) (cl := vwCl) (tys := lt9 ca) (nw := zw_nest) (av := [.ref sf, .int (xs 1), .int (xs 2), .int (xs 3), .ref ob]) (rest := []) ⟨hx, hb, hml, hown, hts⟩ (m_L_springx l hl9 dC dI ca sf ad ad2 ob zMi zMi (xs 1) (xs 2) (xs 3) (z_ni0 _)) (vx_cwSW 5 hts gL_law_L_spring rfl rfl rfl (by decide +kernel) ⟨Nat.le_of_ble_eq_true rfl, Nat.le_of_ble_eq_true rfl⟩) ⟨hT, hC1, hC2⟩ hK hN hEx zw_nest_ok rfl hl.1 rfl (Nat.le_of_ble_eq_true rfl) dL_law_444 ⟨(by show 146 + 1 ≤ 656031; omega), (by show 780 + 6 ≤ 7134144; omega)⟩ hS (fun H locs oq1 hz1 hS => ?_)
  have hMo := va_at.kept hMo (oq1 _ (va_at.lt hMo))
  have hR := hR.kept (fun i hi => oq1 _ (hR.lt hi))
  have hO := va_at.kept hO (oq1 _ (va_at.lt hO))
  refine lv_istore (lv' := [(5, .int 1), (4, .int 0), (3, .ref ob), (2, .ref mo), (1, .ref sf), (0, .ref b)]) hx hb dL_law_447 hl (by decide) rfl (fun ls hl => ?_)
  refine lv_aload_n hx hb dL_law_449 rfl (lv_at hl 3 rfl) ?_
  refine lv_aload_n hx hb dL_law_450 rfl (lv_at hl 5 rfl) ?_
  refine lv_iload hx hb dL_law_451 (lv_at hl 1 rfl) ?_
  refine lv_iconst (v := 1) hx hb dL_law_453 (by decide) ?_
  refine lv_iadd hx hb dL_law_454 ?_
  refine y_num (b := 1) (by decide) ?_
  refine va_sld hx hb hX hbl hbA hS (show vp_in 1 6 from zx (n := 1) rfl (by decide) (by decide)) dL_law_455 ?_
  refine y_num (b := (xs 1)) (show xs 1 = (xs 1) from rfl) ?_
  refine lv_aload_n hx hb dL_law_456 rfl (lv_at hl 5 rfl) ?_
  refine lv_iload hx hb dL_law_457 (lv_at hl 1 rfl) ?_
  refine lv_iconst (v := 2) hx hb dL_law_459 (by decide) ?_
  refine lv_iadd hx hb dL_law_460 ?_
  refine y_num (b := 2) (by decide) ?_
  refine va_sld hx hb hX hbl hbA hS (show vp_in 2 6 from zx (n := 2) rfl (by decide) (by decide)) dL_law_461 ?_
  refine y_num (b := (xs 2)) (show xs 2 = (xs 2) from rfl) ?_
  refine lv_aload_n hx hb dL_law_462 rfl (lv_at hl 5 rfl) ?_
  refine lv_iload hx hb dL_law_463 (lv_at hl 1 rfl) ?_
  refine lv_iconst (v := 3) hx hb dL_law_465 (by decide) ?_
  refine lv_iadd hx hb dL_law_466 ?_
  refine y_num (b := 3) (by decide) ?_
  refine va_sld hx hb hX hbl hbA hS (show vp_in 3 6 from zx (n := 3) rfl (by decide) (by decide)) dL_law_467 ?_
  refine y_num (b := (xs 3)) (show xs 3 = (xs 3) from rfl) ?_
  refine y_cVi (D := (dC, dI)) (cl := vwCl) (tys := yt ca) (nw := zw_nest) (C := RX10) (As := [.int (xs 1), .int (xs 2), .int (xs 3)]) (rest := []) ⟨hx, hb, hml, hown, hts⟩ (m_X10_spring l dC dI ca mo _ ar hIr hmr 0 0 (xs 1) (xs 2) (xs 3) ) (cwV 3 hts gL_law_X10_spring rfl rfl rfl (by decide +kernel) ⟨Nat.le_of_ble_eq_true rfl, Nat.le_of_ble_eq_true rfl⟩) (va_recv hK9 (y_one hMo) (ci := 10) rfl (q0 := 0) rfl) ⟨rfl, hMo, hR⟩ hK9 hN hAO zw_nest_ok rfl hl.1 rfl (Nat.le_of_ble_eq_true rfl) dL_law_468 ⟨(by show 147 + 0 ≤ 656031; omega), (by show 786 + 0 ≤ 7134144; omega)⟩ hS (yA_law hmo (fun i hi => Nat.le_trans hmo (Nat.le_of_lt (hrb i hi).1)) hS.1) (fun H locs hB1 oq1 hz1 hS => ?_)
  have hO := va_at.kept hO (oq1 _ (va_at.lt hO) (yA_ob hob hrb (va_at.lt hO)))
  obtain ⟨hMo, hR⟩ := hB1
  refine lv_istore (lv' := [(6, .int 0), (5, .int 1), (4, .int 0), (3, .ref ob), (2, .ref mo), (1, .ref sf), (0, .ref b)]) hx hb dL_law_471 hl (by decide) rfl (fun ls hl => ?_)
  refine lv_aload_n hx hb dL_law_473 rfl (lv_at hl 4 rfl) ?_
  refine y_cVi (D := (dC, dI)) (cl := vwCl) (tys := yt ca) (nw := zw_nest) (C := RX10) (As := []) (rest := []) ⟨hx, hb, hml, hown, hts⟩ (m_X10_thrown0 l dC dI ca mo (ar 0) 1 0) (cwV 0 hts gL_law_X10_thrown rfl rfl rfl (by decide +kernel) ⟨Nat.le_of_ble_eq_true rfl, Nat.le_of_ble_eq_true rfl⟩) (va_recv hK9 (y_one hMo) (ci := 10) rfl (q0 := 0) rfl) hMo hK9 hN hAO zw_nest_ok rfl hl.1 rfl (Nat.le_of_ble_eq_true rfl) dL_law_474 ⟨(by show 147 + 0 ≤ 656031; omega), (by show 786 + 0 ≤ 7134144; omega)⟩ hS (fun _ h => h.elim) (fun H locs hB1 oq1 hz1 hS => ?_)
  have hO := va_at.kept hO (oq1 _ (va_at.lt hO) (fun h => h))
  refine lv_iload hx hb dL_law_477 (lv_at hl 1 rfl) ?_
  refine lv_icmp_eq (tgt := 484) hx hb dL_law_479 (by decide) (fun _ => ?_) (fun c9 => absurd rfl c9)
  refine lv_iload hx hb dL_law_484 (lv_at hl 1 rfl) ?_
  refine lv_if_ne (tgt := 501) hx hb dL_law_486 (by decide) (fun _ => ?_) (fun c9 => absurd c9 (by decide))
  refine lv_goto (tgt := 1716) hx hb dL_law_501 (by decide) ?_
  refine W.widen (k := 656031) (n := 7134144) (by show 147 ≤ 656031; omega) (by show 786 ≤ 7134144; omega) ?_
  exact hJ _ _ _ (lv_sub hl [2, 3, 4, 5, 6] rfl) hS
set_option maxHeartbeats 4000000 in
set_option maxRecDepth 100000 in
theorem la_valve {p : Program} {e : Env} {s : State} {m : MethodId} {below : List Frame} {meth : Method} {c : Code} {Q : State → Prop} (l : Launch) (hl9 : l.stackTraces = false) {b : Nat} {xs : Nat → Int32} (dC : Nat → ClassId) (dI : Nat → Nat → Nat) (ca : Nat → ClassId)
    (hx : p.tables.exec = Jvm.exec) (hb : c.code = cL_law) (hml : c.maxLocals = 9) (hown : s.vm.findClass RL = some m.cls) (hts : ∀ w ∈ wsL_law, w.before #[Value.ref b] s = true) (hX : va_X b 6 xs s s.heap) (hbl : b < s.heap.size) (hK : va_K (dC, dI) vwCl (lt9 ca) s) (hN : z_N zw_nest s) (hAO : va_AOA .int s) (hEx : zEx9 (fun q => s.heap.size ≤ q) s)
    (sf mo ob : Nat) (ad ad2 ar : Nat → Nat) (hI : z_I zd ad) (hI2 : z_I zd ad2) (hq : zSep sf ad ad2) (hA2 : ∀ q, zA2 ad ad2 q → s.heap.size ≤ q ∧ q < mo) (hIr : z_I yd ar) (hrb : ∀ i, yd.1 i < 200 → mo < ar i ∧ ar i < ob) (hmo : s.heap.size ≤ mo) (hob : mo < ob)
    (H : Heap) (locs : List Loc) (ls : Array Slot) (hl : lv_has ls 9 [(4, .int 0), (3, .ref ob), (2, .ref mo), (1, .ref sf), (0, .ref b)]) (hT : zT dC dI ca sf (ad 0) (ad2 0) H) (hC1 : zW dC dI ca ad zMi H) (hC2 : zW dC dI ca ad2 zMi H) (hMo : yMo dC dI mo 0 (ar 0) 0 H) (hR : yW dC dI ca ar (yM 0) H) (hO : yO dC dI ca ob (fun _ => 0) H) (hS : va_S (fun q => s.heap.size ≤ q) s.heap H locs)
    (hJ : ∀ (H : Heap) (locs : List Loc) (ls : Array Slot), lv_has ls 9 [(4, .int 0), (3, .ref ob), (2, .ref mo), (1, .ref sf), (0, .ref b)] → va_S (fun q => s.heap.size ≤ q) s.heap H locs → W p l e room_1 s m #[Value.ref b] below meth c H locs 656031 7134144 Q (F0 m 1716 ls [])) : W p l e room_1 s m #[Value.ref b] below meth c H locs 146 780 Q (F0 m 504 ls []) := by
  have hbA : ¬ (fun q => s.heap.size ≤ q) b := Nat.not_le.mpr hbl
  have hK5 : va_K (dC, dI) vwCl (zt ca) s := va_K.sub hK [0, 1, 2, 3, 4] rfl
  have hK9 : va_K (dC, dI) vwCl (yt ca) s := va_K.sub hK [0, 5] rfl
  have hmr : ∀ i, yd.1 i < 200 → ar i ≠ mo := fun i hi => by have h1 := hrb i hi; omega
  have hob2 : ¬ zA2 ad ad2 ob := fun h => by have h1 := hA2 _ h; omega
  have hAz : ∀ q, zA2 ad ad2 q → (fun q => s.heap.size ≤ q) q := fun q h => (hA2 q h).1
  have hAo : ∀ q, zAo ad ad2 ob q → (fun q => s.heap.size ≤ q) q := by
    rintro q (h | h)
    · exact (hA2 q h).1
    · rw [h]; show s.heap.size ≤ ob; omega
  have hmoA : ¬ zAo ad ad2 ob mo := by
    rintro (h | h)
    · have h1 := hA2 _ h; omega
    · omega
  have hrA : ∀ i, yd.1 i < 200 → ¬ zAo ad ad2 ob (ar i) := fun i hi => by
    have h2 := hrb i hi
    rintro (h | h)
    · have h1 := hA2 _ h; omega
    · omega
  refine lv_aload_n hx hb dL_law_504 rfl (lv_at hl 3 rfl) ?_
  refine lv_aload_n hx hb dL_law_505 rfl (lv_at hl 4 rfl) ?_
  refine lv_iload hx hb dL_law_506 (lv_at hl 0 rfl) ?_
  refine lv_iconst (v := 1) hx hb dL_law_508 (by decide) ?_
  refine lv_iadd hx hb dL_law_509 ?_
  refine y_num (b := 1) (by decide) ?_
  refine va_sld hx hb hX hbl hbA hS (show vp_in 1 6 from zx (n := 1) rfl (by decide) (by decide)) dL_law_510 ?_
  refine y_num (b := (xs 1)) (show xs 1 = (xs 1) from rfl) ?_
  refine lv_aload_n hx hb dL_law_511 rfl (lv_at hl 4 rfl) ?_
  refine lv_iload hx hb dL_law_512 (lv_at hl 0 rfl) ?_
  refine lv_iconst (v := 2) hx hb dL_law_514 (by decide) ?_
  refine lv_iadd hx hb dL_law_515 ?_
  refine y_num (b := 2) (by decide) ?_
  refine va_sld hx hb hX hbl hbA hS (show vp_in 2 6 from zx (n := 2) rfl (by decide) (by decide)) dL_law_516 ?_
  refine y_num (b := (xs 2)) (show xs 2 = (xs 2) from rfl) ?_
  refine lv_aload_n hx hb dL_law_517 rfl (lv_at hl 1 rfl) ?_
  refine z_cWx (D := (dC, dI)) (cl := vwCl) (tys := lt9 ca) (nw := zw_nest) (av := [.ref sf, .int (xs 1), .int (xs 2), .ref ob]) (rest := []) ⟨hx, hb, hml, hown, hts⟩ (m_L_valvex l hl9 dC dI ca sf ad ad2 ob zMi zMi (xs 1) (xs 2) (z_ni0 _)) (vx_cwSW 4 hts gL_law_L_valve rfl rfl rfl (by decide +kernel) ⟨Nat.le_of_ble_eq_true rfl, Nat.le_of_ble_eq_true rfl⟩) ⟨hT, hC1, hC2⟩ hK hN hEx zw_nest_ok rfl hl.1 rfl (Nat.le_of_ble_eq_true rfl) dL_law_518 ⟨(by show 146 + 1 ≤ 656031; omega), (by show 780 + 6 ≤ 7134144; omega)⟩ hS (fun H locs oq1 hz1 hS => ?_)
  have hMo := va_at.kept hMo (oq1 _ (va_at.lt hMo))
  have hR := hR.kept (fun i hi => oq1 _ (hR.lt hi))
  have hO := va_at.kept hO (oq1 _ (va_at.lt hO))
  refine lv_istore (lv' := [(5, .int 1), (4, .int 0), (3, .ref ob), (2, .ref mo), (1, .ref sf), (0, .ref b)]) hx hb dL_law_521 hl (by decide) rfl (fun ls hl => ?_)
  refine lv_aload_n hx hb dL_law_523 rfl (lv_at hl 3 rfl) ?_
  refine lv_aload_n hx hb dL_law_524 rfl (lv_at hl 5 rfl) ?_
  refine lv_iload hx hb dL_law_525 (lv_at hl 1 rfl) ?_
  refine lv_iconst (v := 1) hx hb dL_law_527 (by decide) ?_
  refine lv_iadd hx hb dL_law_528 ?_
  refine y_num (b := 1) (by decide) ?_
  refine va_sld hx hb hX hbl hbA hS (show vp_in 1 6 from zx (n := 1) rfl (by decide) (by decide)) dL_law_529 ?_
  refine y_num (b := (xs 1)) (show xs 1 = (xs 1) from rfl) ?_
  refine lv_aload_n hx hb dL_law_530 rfl (lv_at hl 5 rfl) ?_
  refine lv_iload hx hb dL_law_531 (lv_at hl 1 rfl) ?_
  refine lv_iconst (v := 2) hx hb dL_law_533 (by decide) ?_
  refine lv_iadd hx hb dL_law_534 ?_
  refine y_num (b := 2) (by decide) ?_
  refine va_sld hx hb hX hbl hbA hS (show vp_in 2 6 from zx (n := 2) rfl (by decide) (by decide)) dL_law_535 ?_
  refine y_num (b := (xs 2)) (show xs 2 = (xs 2) from rfl) ?_
  refine y_cVi (D := (dC, dI)) (cl := vwCl) (tys := yt ca) (nw := zw_nest) (C := RX10) (As := [.int (xs 1), .int (xs 2)]) (rest := []) ⟨hx, hb, hml, hown, hts⟩ (m_X10_valve l dC dI ca mo _ ar hIr hmr 0 0 (xs 1) (xs 2) ) (cwV 2 hts gL_law_X10_valve rfl rfl rfl (by decide +kernel) ⟨Nat.le_of_ble_eq_true rfl, Nat.le_of_ble_eq_true rfl⟩) (va_recv hK9 (y_one hMo) (ci := 10) rfl (q0 := 0) rfl) ⟨rfl, hMo, hR⟩ hK9 hN hAO zw_nest_ok rfl hl.1 rfl (Nat.le_of_ble_eq_true rfl) dL_law_536 ⟨(by show 147 + 0 ≤ 656031; omega), (by show 786 + 0 ≤ 7134144; omega)⟩ hS (yA_law hmo (fun i hi => Nat.le_trans hmo (Nat.le_of_lt (hrb i hi).1)) hS.1) (fun H locs hB1 oq1 hz1 hS => ?_)
  have hO := va_at.kept hO (oq1 _ (va_at.lt hO) (yA_ob hob hrb (va_at.lt hO)))
  obtain ⟨hMo, hR⟩ := hB1
  refine lv_istore (lv' := [(6, .int 0), (5, .int 1), (4, .int 0), (3, .ref ob), (2, .ref mo), (1, .ref sf), (0, .ref b)]) hx hb dL_law_539 hl (by decide) rfl (fun ls hl => ?_)
  refine lv_aload_n hx hb dL_law_541 rfl (lv_at hl 4 rfl) ?_
  refine y_cVi (D := (dC, dI)) (cl := vwCl) (tys := yt ca) (nw := zw_nest) (C := RX10) (As := []) (rest := []) ⟨hx, hb, hml, hown, hts⟩ (m_X10_thrown0 l dC dI ca mo (ar 0) 1 0) (cwV 0 hts gL_law_X10_thrown rfl rfl rfl (by decide +kernel) ⟨Nat.le_of_ble_eq_true rfl, Nat.le_of_ble_eq_true rfl⟩) (va_recv hK9 (y_one hMo) (ci := 10) rfl (q0 := 0) rfl) hMo hK9 hN hAO zw_nest_ok rfl hl.1 rfl (Nat.le_of_ble_eq_true rfl) dL_law_542 ⟨(by show 147 + 0 ≤ 656031; omega), (by show 786 + 0 ≤ 7134144; omega)⟩ hS (fun _ h => h.elim) (fun H locs hB1 oq1 hz1 hS => ?_)
  have hO := va_at.kept hO (oq1 _ (va_at.lt hO) (fun h => h))
  refine lv_iload hx hb dL_law_545 (lv_at hl 1 rfl) ?_
  refine lv_icmp_eq (tgt := 552) hx hb dL_law_547 (by decide) (fun _ => ?_) (fun c9 => absurd rfl c9)
  refine lv_iload hx hb dL_law_552 (lv_at hl 1 rfl) ?_
  refine lv_if_ne (tgt := 569) hx hb dL_law_554 (by decide) (fun _ => ?_) (fun c9 => absurd c9 (by decide))
  refine lv_goto (tgt := 1716) hx hb dL_law_569 (by decide) ?_
  refine W.widen (k := 656031) (n := 7134144) (by show 147 ≤ 656031; omega) (by show 786 ≤ 7134144; omega) ?_
  exact hJ _ _ _ (lv_sub hl [2, 3, 4, 5, 6] rfl) hS
set_option maxHeartbeats 4000000 in
set_option maxRecDepth 100000 in
theorem la_trace {p : Program} {e : Env} {s : State} {m : MethodId} {below : List Frame} {meth : Method} {c : Code} {Q : State → Prop} (l : Launch) (hl9 : l.stackTraces = false) {b : Nat} {xs : Nat → Int32} (dC : Nat → ClassId) (dI : Nat → Nat → Nat) (ca : Nat → ClassId)
    (hx : p.tables.exec = Jvm.exec) (hb : c.code = cL_law) (hml : c.maxLocals = 9) (hown : s.vm.findClass RL = some m.cls) (hts : ∀ w ∈ wsL_law, w.before #[Value.ref b] s = true) (hX : va_X b 6 xs s s.heap) (hbl : b < s.heap.size) (hK : va_K (dC, dI) vwCl (lt9 ca) s) (hN : z_N zw_nest s) (hAO : va_AOA .int s) (hEx : zEx9 (fun q => s.heap.size ≤ q) s)
    (sf mo ob : Nat) (ad ad2 ar : Nat → Nat) (hI : z_I zd ad) (hI2 : z_I zd ad2) (hq : zSep sf ad ad2) (hA2 : ∀ q, zA2 ad ad2 q → s.heap.size ≤ q ∧ q < mo) (hIr : z_I yd ar) (hrb : ∀ i, yd.1 i < 200 → mo < ar i ∧ ar i < ob) (hmo : s.heap.size ≤ mo) (hob : mo < ob)
    (H : Heap) (locs : List Loc) (ls : Array Slot) (hl : lv_has ls 9 [(4, .int 0), (3, .ref ob), (2, .ref mo), (1, .ref sf), (0, .ref b)]) (hT : zT dC dI ca sf (ad 0) (ad2 0) H) (hC1 : zW dC dI ca ad zMi H) (hC2 : zW dC dI ca ad2 zMi H) (hMo : yMo dC dI mo 0 (ar 0) 0 H) (hR : yW dC dI ca ar (yM 0) H) (hO : yO dC dI ca ob (fun _ => 0) H) (hS : va_S (fun q => s.heap.size ≤ q) s.heap H locs)
    (hJ : ∀ (H : Heap) (locs : List Loc) (ls : Array Slot), lv_has ls 9 [(4, .int 0), (3, .ref ob), (2, .ref mo), (1, .ref sf), (0, .ref b)] → va_S (fun q => s.heap.size ≤ q) s.heap H locs → W p l e room_1 s m #[Value.ref b] below meth c H locs 656031 7134144 Q (F0 m 1716 ls [])) : W p l e room_1 s m #[Value.ref b] below meth c H locs 146 780 Q (F0 m 572 ls []) := by
  have hbA : ¬ (fun q => s.heap.size ≤ q) b := Nat.not_le.mpr hbl
  have hK5 : va_K (dC, dI) vwCl (zt ca) s := va_K.sub hK [0, 1, 2, 3, 4] rfl
  have hK9 : va_K (dC, dI) vwCl (yt ca) s := va_K.sub hK [0, 5] rfl
  have hmr : ∀ i, yd.1 i < 200 → ar i ≠ mo := fun i hi => by have h1 := hrb i hi; omega
  have hob2 : ¬ zA2 ad ad2 ob := fun h => by have h1 := hA2 _ h; omega
  have hAz : ∀ q, zA2 ad ad2 q → (fun q => s.heap.size ≤ q) q := fun q h => (hA2 q h).1
  have hAo : ∀ q, zAo ad ad2 ob q → (fun q => s.heap.size ≤ q) q := by
    rintro q (h | h)
    · exact (hA2 q h).1
    · rw [h]; show s.heap.size ≤ ob; omega
  have hmoA : ¬ zAo ad ad2 ob mo := by
    rintro (h | h)
    · have h1 := hA2 _ h; omega
    · omega
  have hrA : ∀ i, yd.1 i < 200 → ¬ zAo ad ad2 ob (ar i) := fun i hi => by
    have h2 := hrb i hi
    rintro (h | h)
    · have h1 := hA2 _ h; omega
    · omega
  refine lv_aload_n hx hb dL_law_572 rfl (lv_at hl 3 rfl) ?_
  refine lv_aload_n hx hb dL_law_573 rfl (lv_at hl 4 rfl) ?_
  refine lv_iload hx hb dL_law_574 (lv_at hl 0 rfl) ?_
  refine lv_iconst (v := 1) hx hb dL_law_576 (by decide) ?_
  refine lv_iadd hx hb dL_law_577 ?_
  refine y_num (b := 1) (by decide) ?_
  refine va_sld hx hb hX hbl hbA hS (show vp_in 1 6 from zx (n := 1) rfl (by decide) (by decide)) dL_law_578 ?_
  refine y_num (b := (xs 1)) (show xs 1 = (xs 1) from rfl) ?_
  refine lv_aload_n hx hb dL_law_579 rfl (lv_at hl 4 rfl) ?_
  refine lv_iload hx hb dL_law_580 (lv_at hl 0 rfl) ?_
  refine lv_iconst (v := 2) hx hb dL_law_582 (by decide) ?_
  refine lv_iadd hx hb dL_law_583 ?_
  refine y_num (b := 2) (by decide) ?_
  refine va_sld hx hb hX hbl hbA hS (show vp_in 2 6 from zx (n := 2) rfl (by decide) (by decide)) dL_law_584 ?_
  refine y_num (b := (xs 2)) (show xs 2 = (xs 2) from rfl) ?_
  refine lv_aload_n hx hb dL_law_585 rfl (lv_at hl 1 rfl) ?_
  refine z_cWx (D := (dC, dI)) (cl := vwCl) (tys := lt9 ca) (nw := zw_nest) (av := [.ref sf, .int (xs 1), .int (xs 2), .ref ob]) (rest := []) ⟨hx, hb, hml, hown, hts⟩ (m_L_tracex l hl9 dC dI ca sf ad ad2 ob zMi zMi (xs 1) (xs 2) (z_ni0 _)) (vx_cwSW 4 hts gL_law_L_trace rfl rfl rfl (by decide +kernel) ⟨Nat.le_of_ble_eq_true rfl, Nat.le_of_ble_eq_true rfl⟩) ⟨hT, hC1, hC2⟩ hK hN hEx zw_nest_ok rfl hl.1 rfl (Nat.le_of_ble_eq_true rfl) dL_law_586 ⟨(by show 146 + 1 ≤ 656031; omega), (by show 780 + 6 ≤ 7134144; omega)⟩ hS (fun H locs oq1 hz1 hS => ?_)
  have hMo := va_at.kept hMo (oq1 _ (va_at.lt hMo))
  have hR := hR.kept (fun i hi => oq1 _ (hR.lt hi))
  have hO := va_at.kept hO (oq1 _ (va_at.lt hO))
  refine lv_istore (lv' := [(5, .int 1), (4, .int 0), (3, .ref ob), (2, .ref mo), (1, .ref sf), (0, .ref b)]) hx hb dL_law_589 hl (by decide) rfl (fun ls hl => ?_)
  refine lv_aload_n hx hb dL_law_591 rfl (lv_at hl 3 rfl) ?_
  refine lv_aload_n hx hb dL_law_592 rfl (lv_at hl 5 rfl) ?_
  refine lv_iload hx hb dL_law_593 (lv_at hl 1 rfl) ?_
  refine lv_iconst (v := 1) hx hb dL_law_595 (by decide) ?_
  refine lv_iadd hx hb dL_law_596 ?_
  refine y_num (b := 1) (by decide) ?_
  refine va_sld hx hb hX hbl hbA hS (show vp_in 1 6 from zx (n := 1) rfl (by decide) (by decide)) dL_law_597 ?_
  refine y_num (b := (xs 1)) (show xs 1 = (xs 1) from rfl) ?_
  refine lv_aload_n hx hb dL_law_598 rfl (lv_at hl 5 rfl) ?_
  refine lv_iload hx hb dL_law_599 (lv_at hl 1 rfl) ?_
  refine lv_iconst (v := 2) hx hb dL_law_601 (by decide) ?_
  refine lv_iadd hx hb dL_law_602 ?_
  refine y_num (b := 2) (by decide) ?_
  refine va_sld hx hb hX hbl hbA hS (show vp_in 2 6 from zx (n := 2) rfl (by decide) (by decide)) dL_law_603 ?_
  refine y_num (b := (xs 2)) (show xs 2 = (xs 2) from rfl) ?_
  refine y_cVi (D := (dC, dI)) (cl := vwCl) (tys := yt ca) (nw := zw_nest) (C := RX10) (As := [.int (xs 1), .int (xs 2)]) (rest := []) ⟨hx, hb, hml, hown, hts⟩ (m_X10_trace l dC dI ca mo _ ar hIr hmr 0 0 (xs 1) (xs 2) ) (cwV 2 hts gL_law_X10_trace rfl rfl rfl (by decide +kernel) ⟨Nat.le_of_ble_eq_true rfl, Nat.le_of_ble_eq_true rfl⟩) (va_recv hK9 (y_one hMo) (ci := 10) rfl (q0 := 0) rfl) ⟨rfl, hMo, hR⟩ hK9 hN hAO zw_nest_ok rfl hl.1 rfl (Nat.le_of_ble_eq_true rfl) dL_law_604 ⟨(by show 147 + 0 ≤ 656031; omega), (by show 786 + 0 ≤ 7134144; omega)⟩ hS (yA_law hmo (fun i hi => Nat.le_trans hmo (Nat.le_of_lt (hrb i hi).1)) hS.1) (fun H locs hB1 oq1 hz1 hS => ?_)
  have hO := va_at.kept hO (oq1 _ (va_at.lt hO) (yA_ob hob hrb (va_at.lt hO)))
  obtain ⟨hMo, hR⟩ := hB1
  refine lv_istore (lv' := [(6, .int 0), (5, .int 1), (4, .int 0), (3, .ref ob), (2, .ref mo), (1, .ref sf), (0, .ref b)]) hx hb dL_law_607 hl (by decide) rfl (fun ls hl => ?_)
  refine lv_aload_n hx hb dL_law_609 rfl (lv_at hl 4 rfl) ?_
  refine y_cVi (D := (dC, dI)) (cl := vwCl) (tys := yt ca) (nw := zw_nest) (C := RX10) (As := []) (rest := []) ⟨hx, hb, hml, hown, hts⟩ (m_X10_thrown0 l dC dI ca mo (ar 0) 1 0) (cwV 0 hts gL_law_X10_thrown rfl rfl rfl (by decide +kernel) ⟨Nat.le_of_ble_eq_true rfl, Nat.le_of_ble_eq_true rfl⟩) (va_recv hK9 (y_one hMo) (ci := 10) rfl (q0 := 0) rfl) hMo hK9 hN hAO zw_nest_ok rfl hl.1 rfl (Nat.le_of_ble_eq_true rfl) dL_law_610 ⟨(by show 147 + 0 ≤ 656031; omega), (by show 786 + 0 ≤ 7134144; omega)⟩ hS (fun _ h => h.elim) (fun H locs hB1 oq1 hz1 hS => ?_)
  have hO := va_at.kept hO (oq1 _ (va_at.lt hO) (fun h => h))
  refine lv_iload hx hb dL_law_613 (lv_at hl 1 rfl) ?_
  refine lv_icmp_eq (tgt := 620) hx hb dL_law_615 (by decide) (fun _ => ?_) (fun c9 => absurd rfl c9)
  refine lv_iload hx hb dL_law_620 (lv_at hl 1 rfl) ?_
  refine lv_if_ne (tgt := 637) hx hb dL_law_622 (by decide) (fun _ => ?_) (fun c9 => absurd c9 (by decide))
  refine lv_goto (tgt := 1716) hx hb dL_law_637 (by decide) ?_
  refine W.widen (k := 656031) (n := 7134144) (by show 147 ≤ 656031; omega) (by show 786 ≤ 7134144; omega) ?_
  exact hJ _ _ _ (lv_sub hl [2, 3, 4, 5, 6] rfl) hS
set_option maxHeartbeats 4000000 in
set_option maxRecDepth 100000 in
theorem la_clean {p : Program} {e : Env} {s : State} {m : MethodId} {below : List Frame} {meth : Method} {c : Code} {Q : State → Prop} (l : Launch) (hl9 : l.stackTraces = false) {b : Nat} {xs : Nat → Int32} (dC : Nat → ClassId) (dI : Nat → Nat → Nat) (ca : Nat → ClassId)
    (hx : p.tables.exec = Jvm.exec) (hb : c.code = cL_law) (hml : c.maxLocals = 9) (hown : s.vm.findClass RL = some m.cls) (hts : ∀ w ∈ wsL_law, w.before #[Value.ref b] s = true) (hX : va_X b 6 xs s s.heap) (hbl : b < s.heap.size) (hK : va_K (dC, dI) vwCl (lt9 ca) s) (hN : z_N zw_nest s) (hAO : va_AOA .int s) (hEx : zEx9 (fun q => s.heap.size ≤ q) s)
    (sf mo ob : Nat) (ad ad2 ar : Nat → Nat) (hI : z_I zd ad) (hI2 : z_I zd ad2) (hq : zSep sf ad ad2) (hA2 : ∀ q, zA2 ad ad2 q → s.heap.size ≤ q ∧ q < mo) (hIr : z_I yd ar) (hrb : ∀ i, yd.1 i < 200 → mo < ar i ∧ ar i < ob) (hmo : s.heap.size ≤ mo) (hob : mo < ob)
    (H : Heap) (locs : List Loc) (ls : Array Slot) (hl : lv_has ls 9 [(4, .int 0), (3, .ref ob), (2, .ref mo), (1, .ref sf), (0, .ref b)]) (hT : zT dC dI ca sf (ad 0) (ad2 0) H) (hC1 : zW dC dI ca ad zMi H) (hC2 : zW dC dI ca ad2 zMi H) (hMo : yMo dC dI mo 0 (ar 0) 0 H) (hR : yW dC dI ca ar (yM 0) H) (hO : yO dC dI ca ob (fun _ => 0) H) (hS : va_S (fun q => s.heap.size ≤ q) s.heap H locs)
    (hJ : ∀ (H : Heap) (locs : List Loc) (ls : Array Slot), lv_has ls 9 [(4, .int 0), (3, .ref ob), (2, .ref mo), (1, .ref sf), (0, .ref b)] → va_S (fun q => s.heap.size ≤ q) s.heap H locs → W p l e room_1 s m #[Value.ref b] below meth c H locs 656031 7134144 Q (F0 m 1716 ls [])) : W p l e room_1 s m #[Value.ref b] below meth c H locs 146 780 Q (F0 m 640 ls []) := by
  have hbA : ¬ (fun q => s.heap.size ≤ q) b := Nat.not_le.mpr hbl
  have hK5 : va_K (dC, dI) vwCl (zt ca) s := va_K.sub hK [0, 1, 2, 3, 4] rfl
  have hK9 : va_K (dC, dI) vwCl (yt ca) s := va_K.sub hK [0, 5] rfl
  have hmr : ∀ i, yd.1 i < 200 → ar i ≠ mo := fun i hi => by have h1 := hrb i hi; omega
  have hob2 : ¬ zA2 ad ad2 ob := fun h => by have h1 := hA2 _ h; omega
  have hAz : ∀ q, zA2 ad ad2 q → (fun q => s.heap.size ≤ q) q := fun q h => (hA2 q h).1
  have hAo : ∀ q, zAo ad ad2 ob q → (fun q => s.heap.size ≤ q) q := by
    rintro q (h | h)
    · exact (hA2 q h).1
    · rw [h]; show s.heap.size ≤ ob; omega
  have hmoA : ¬ zAo ad ad2 ob mo := by
    rintro (h | h)
    · have h1 := hA2 _ h; omega
    · omega
  have hrA : ∀ i, yd.1 i < 200 → ¬ zAo ad ad2 ob (ar i) := fun i hi => by
    have h2 := hrb i hi
    rintro (h | h)
    · have h1 := hA2 _ h; omega
    · omega
  refine lv_aload_n hx hb dL_law_640 rfl (lv_at hl 3 rfl) ?_
  refine lv_aload_n hx hb dL_law_641 rfl (lv_at hl 4 rfl) ?_
  refine lv_iload hx hb dL_law_642 (lv_at hl 0 rfl) ?_
  refine lv_iconst (v := 1) hx hb dL_law_644 (by decide) ?_
  refine lv_iadd hx hb dL_law_645 ?_
  refine y_num (b := 1) (by decide) ?_
  refine va_sld hx hb hX hbl hbA hS (show vp_in 1 6 from zx (n := 1) rfl (by decide) (by decide)) dL_law_646 ?_
  refine y_num (b := (xs 1)) (show xs 1 = (xs 1) from rfl) ?_
  refine lv_aload_n hx hb dL_law_647 rfl (lv_at hl 1 rfl) ?_
  refine z_cWx (D := (dC, dI)) (cl := vwCl) (tys := lt9 ca) (nw := zw_nest) (av := [.ref sf, .int (xs 1), .ref ob]) (rest := []) ⟨hx, hb, hml, hown, hts⟩ (m_L_cleanx l hl9 dC dI ca sf ad ad2 ob zMi zMi (xs 1) (z_ni0 _)) (vx_cwSW 3 hts gL_law_L_clean rfl rfl rfl (by decide +kernel) ⟨Nat.le_of_ble_eq_true rfl, Nat.le_of_ble_eq_true rfl⟩) ⟨hT, hC1, hC2⟩ hK hN hEx zw_nest_ok rfl hl.1 rfl (Nat.le_of_ble_eq_true rfl) dL_law_648 ⟨(by show 146 + 1 ≤ 656031; omega), (by show 780 + 6 ≤ 7134144; omega)⟩ hS (fun H locs oq1 hz1 hS => ?_)
  have hMo := va_at.kept hMo (oq1 _ (va_at.lt hMo))
  have hR := hR.kept (fun i hi => oq1 _ (hR.lt hi))
  have hO := va_at.kept hO (oq1 _ (va_at.lt hO))
  refine lv_istore (lv' := [(5, .int 1), (4, .int 0), (3, .ref ob), (2, .ref mo), (1, .ref sf), (0, .ref b)]) hx hb dL_law_651 hl (by decide) rfl (fun ls hl => ?_)
  refine lv_aload_n hx hb dL_law_653 rfl (lv_at hl 3 rfl) ?_
  refine lv_aload_n hx hb dL_law_654 rfl (lv_at hl 5 rfl) ?_
  refine lv_iload hx hb dL_law_655 (lv_at hl 1 rfl) ?_
  refine lv_iconst (v := 1) hx hb dL_law_657 (by decide) ?_
  refine lv_iadd hx hb dL_law_658 ?_
  refine y_num (b := 1) (by decide) ?_
  refine va_sld hx hb hX hbl hbA hS (show vp_in 1 6 from zx (n := 1) rfl (by decide) (by decide)) dL_law_659 ?_
  refine y_num (b := (xs 1)) (show xs 1 = (xs 1) from rfl) ?_
  refine y_cVi (D := (dC, dI)) (cl := vwCl) (tys := yt ca) (nw := zw_nest) (C := RX10) (As := [.int (xs 1)]) (rest := []) ⟨hx, hb, hml, hown, hts⟩ (m_X10_clean l dC dI ca mo _ ar hIr hmr 0 0 (xs 1) ) (cwV 1 hts gL_law_X10_clean rfl rfl rfl (by decide +kernel) ⟨Nat.le_of_ble_eq_true rfl, Nat.le_of_ble_eq_true rfl⟩) (va_recv hK9 (y_one hMo) (ci := 10) rfl (q0 := 0) rfl) ⟨rfl, hMo, hR⟩ hK9 hN hAO zw_nest_ok rfl hl.1 rfl (Nat.le_of_ble_eq_true rfl) dL_law_660 ⟨(by show 147 + 0 ≤ 656031; omega), (by show 786 + 0 ≤ 7134144; omega)⟩ hS (yA_law hmo (fun i hi => Nat.le_trans hmo (Nat.le_of_lt (hrb i hi).1)) hS.1) (fun H locs hB1 oq1 hz1 hS => ?_)
  have hO := va_at.kept hO (oq1 _ (va_at.lt hO) (yA_ob hob hrb (va_at.lt hO)))
  obtain ⟨hMo, hR⟩ := hB1
  refine lv_istore (lv' := [(6, .int 0), (5, .int 1), (4, .int 0), (3, .ref ob), (2, .ref mo), (1, .ref sf), (0, .ref b)]) hx hb dL_law_663 hl (by decide) rfl (fun ls hl => ?_)
  refine lv_aload_n hx hb dL_law_665 rfl (lv_at hl 4 rfl) ?_
  refine y_cVi (D := (dC, dI)) (cl := vwCl) (tys := yt ca) (nw := zw_nest) (C := RX10) (As := []) (rest := []) ⟨hx, hb, hml, hown, hts⟩ (m_X10_thrown0 l dC dI ca mo (ar 0) 1 0) (cwV 0 hts gL_law_X10_thrown rfl rfl rfl (by decide +kernel) ⟨Nat.le_of_ble_eq_true rfl, Nat.le_of_ble_eq_true rfl⟩) (va_recv hK9 (y_one hMo) (ci := 10) rfl (q0 := 0) rfl) hMo hK9 hN hAO zw_nest_ok rfl hl.1 rfl (Nat.le_of_ble_eq_true rfl) dL_law_666 ⟨(by show 147 + 0 ≤ 656031; omega), (by show 786 + 0 ≤ 7134144; omega)⟩ hS (fun _ h => h.elim) (fun H locs hB1 oq1 hz1 hS => ?_)
  have hO := va_at.kept hO (oq1 _ (va_at.lt hO) (fun h => h))
  refine lv_iload hx hb dL_law_669 (lv_at hl 1 rfl) ?_
  refine lv_icmp_eq (tgt := 676) hx hb dL_law_671 (by decide) (fun _ => ?_) (fun c9 => absurd rfl c9)
  refine lv_iload hx hb dL_law_676 (lv_at hl 1 rfl) ?_
  refine lv_if_ne (tgt := 693) hx hb dL_law_678 (by decide) (fun _ => ?_) (fun c9 => absurd c9 (by decide))
  refine lv_goto (tgt := 1716) hx hb dL_law_693 (by decide) ?_
  refine W.widen (k := 656031) (n := 7134144) (by show 147 ≤ 656031; omega) (by show 786 ≤ 7134144; omega) ?_
  exact hJ _ _ _ (lv_sub hl [2, 3, 4, 5, 6] rfl) hS
set_option maxHeartbeats 4000000 in
set_option maxRecDepth 100000 in
theorem la_turbine {p : Program} {e : Env} {s : State} {m : MethodId} {below : List Frame} {meth : Method} {c : Code} {Q : State → Prop} (l : Launch) (hl9 : l.stackTraces = false) {b : Nat} {xs : Nat → Int32} (dC : Nat → ClassId) (dI : Nat → Nat → Nat) (ca : Nat → ClassId)
    (hx : p.tables.exec = Jvm.exec) (hb : c.code = cL_law) (hml : c.maxLocals = 9) (hown : s.vm.findClass RL = some m.cls) (hts : ∀ w ∈ wsL_law, w.before #[Value.ref b] s = true) (hX : va_X b 6 xs s s.heap) (hbl : b < s.heap.size) (hK : va_K (dC, dI) vwCl (lt9 ca) s) (hN : z_N zw_nest s) (hAO : va_AOA .int s) (hEx : zEx9 (fun q => s.heap.size ≤ q) s)
    (sf mo ob : Nat) (ad ad2 ar : Nat → Nat) (hI : z_I zd ad) (hI2 : z_I zd ad2) (hq : zSep sf ad ad2) (hA2 : ∀ q, zA2 ad ad2 q → s.heap.size ≤ q ∧ q < mo) (hIr : z_I yd ar) (hrb : ∀ i, yd.1 i < 200 → mo < ar i ∧ ar i < ob) (hmo : s.heap.size ≤ mo) (hob : mo < ob)
    (H : Heap) (locs : List Loc) (ls : Array Slot) (hl : lv_has ls 9 [(4, .int 0), (3, .ref ob), (2, .ref mo), (1, .ref sf), (0, .ref b)]) (hT : zT dC dI ca sf (ad 0) (ad2 0) H) (hC1 : zW dC dI ca ad zMi H) (hC2 : zW dC dI ca ad2 zMi H) (hMo : yMo dC dI mo 0 (ar 0) 0 H) (hR : yW dC dI ca ar (yM 0) H) (hO : yO dC dI ca ob (fun _ => 0) H) (hS : va_S (fun q => s.heap.size ≤ q) s.heap H locs)
    (hJ : ∀ (H : Heap) (locs : List Loc) (ls : Array Slot), lv_has ls 9 [(4, .int 0), (3, .ref ob), (2, .ref mo), (1, .ref sf), (0, .ref b)] → va_S (fun q => s.heap.size ≤ q) s.heap H locs → W p l e room_1 s m #[Value.ref b] below meth c H locs 656031 7134144 Q (F0 m 1716 ls [])) : W p l e room_1 s m #[Value.ref b] below meth c H locs 146 780 Q (F0 m 696 ls []) := by
  have hbA : ¬ (fun q => s.heap.size ≤ q) b := Nat.not_le.mpr hbl
  have hK5 : va_K (dC, dI) vwCl (zt ca) s := va_K.sub hK [0, 1, 2, 3, 4] rfl
  have hK9 : va_K (dC, dI) vwCl (yt ca) s := va_K.sub hK [0, 5] rfl
  have hmr : ∀ i, yd.1 i < 200 → ar i ≠ mo := fun i hi => by have h1 := hrb i hi; omega
  have hob2 : ¬ zA2 ad ad2 ob := fun h => by have h1 := hA2 _ h; omega
  have hAz : ∀ q, zA2 ad ad2 q → (fun q => s.heap.size ≤ q) q := fun q h => (hA2 q h).1
  have hAo : ∀ q, zAo ad ad2 ob q → (fun q => s.heap.size ≤ q) q := by
    rintro q (h | h)
    · exact (hA2 q h).1
    · rw [h]; show s.heap.size ≤ ob; omega
  have hmoA : ¬ zAo ad ad2 ob mo := by
    rintro (h | h)
    · have h1 := hA2 _ h; omega
    · omega
  have hrA : ∀ i, yd.1 i < 200 → ¬ zAo ad ad2 ob (ar i) := fun i hi => by
    have h2 := hrb i hi
    rintro (h | h)
    · have h1 := hA2 _ h; omega
    · omega
  by_cases h : z_rg (xs 1) 0 99
  · refine lv_aload_n hx hb dL_law_696 rfl (lv_at hl 3 rfl) ?_
    refine lv_aload_n hx hb dL_law_697 rfl (lv_at hl 4 rfl) ?_
    refine lv_iload hx hb dL_law_698 (lv_at hl 0 rfl) ?_
    refine lv_iconst (v := 1) hx hb dL_law_700 (by decide) ?_
    refine lv_iadd hx hb dL_law_701 ?_
    refine y_num (b := 1) (by decide) ?_
    refine va_sld hx hb hX hbl hbA hS (show vp_in 1 6 from zx (n := 1) rfl (by decide) (by decide)) dL_law_702 ?_
    refine y_num (b := (xs 1)) (show xs 1 = (xs 1) from rfl) ?_
    refine lv_aload_n hx hb dL_law_703 rfl (lv_at hl 1 rfl) ?_
    refine z_cW (D := (dC, dI)) (cl := vwCl) (tys := lt9 ca) (nw := zw_nest) (av := [.ref sf, .int (xs 1), .ref ob]) (rest := []) ⟨hx, hb, hml, hown, hts⟩ (m_L_turbiney l dC dI ca sf ad hI ad2 hI2 hq ob hob2 (fun _ => 0) zMi zMi (xs 1) zOkMi h) (vx_cwSW 3 hts gL_law_L_turbine rfl rfl rfl (by decide +kernel) ⟨Nat.le_of_ble_eq_true rfl, Nat.le_of_ble_eq_true rfl⟩) ⟨⟨hT, hC1, hC2⟩, hO⟩ hK hN zw_nest_ok rfl hl.1 rfl (Nat.le_of_ble_eq_true rfl) dL_law_704 ⟨(by show 146 + 0 ≤ 656031; omega), (by show 780 + 0 ≤ 7134144; omega)⟩ hS hAo (fun H locs hB1 oq1 hz1 hS => ?_)
    have hO := hB1
    rw [vX_turbine _] at hO
    have hMo := va_at.kept hMo (oq1 _ (va_at.lt hMo) hmoA)
    have hR := hR.kept (fun i hi => oq1 _ (hR.lt hi) (hrA i hi))
    refine lv_istore (lv' := [(5, .int 0), (4, .int 0), (3, .ref ob), (2, .ref mo), (1, .ref sf), (0, .ref b)]) hx hb dL_law_707 hl (by decide) rfl (fun ls hl => ?_)
    refine lv_aload_n hx hb dL_law_709 rfl (lv_at hl 3 rfl) ?_
    refine lv_aload_n hx hb dL_law_710 rfl (lv_at hl 5 rfl) ?_
    refine lv_iload hx hb dL_law_711 (lv_at hl 1 rfl) ?_
    refine lv_iconst (v := 1) hx hb dL_law_713 (by decide) ?_
    refine lv_iadd hx hb dL_law_714 ?_
    refine y_num (b := 1) (by decide) ?_
    refine va_sld hx hb hX hbl hbA hS (show vp_in 1 6 from zx (n := 1) rfl (by decide) (by decide)) dL_law_715 ?_
    refine y_num (b := (xs 1)) (show xs 1 = (xs 1) from rfl) ?_
    refine y_cVi (D := (dC, dI)) (cl := vwCl) (tys := yt ca) (nw := zw_nest) (C := RX10) (As := [.int (xs 1)]) (rest := []) ⟨hx, hb, hml, hown, hts⟩ (m_X10_turbiney l dC dI ca mo _ ar hIr hmr 0 0 (xs 1) h) (cwV 1 hts gL_law_X10_turbine rfl rfl rfl (by decide +kernel) ⟨Nat.le_of_ble_eq_true rfl, Nat.le_of_ble_eq_true rfl⟩) (va_recv hK9 (y_one hMo) (ci := 10) rfl (q0 := 0) rfl) ⟨rfl, hMo, hR⟩ hK9 hN hAO zw_nest_ok rfl hl.1 rfl (Nat.le_of_ble_eq_true rfl) dL_law_716 ⟨(by show 146 + 0 ≤ 656031; omega), (by show 780 + 0 ≤ 7134144; omega)⟩ hS (yA_law hmo (fun i hi => Nat.le_trans hmo (Nat.le_of_lt (hrb i hi).1)) hS.1) (fun H locs hB1 oq1 hz1 hS => ?_)
    have hO := va_at.kept hO (oq1 _ (va_at.lt hO) (yA_ob hob hrb (va_at.lt hO)))
    have hMo := hB1
    refine lv_istore (lv' := [(6, .int 20), (5, .int 0), (4, .int 0), (3, .ref ob), (2, .ref mo), (1, .ref sf), (0, .ref b)]) hx hb dL_law_719 hl (by decide) rfl (fun ls hl => ?_)
    refine lv_aload_n hx hb dL_law_721 rfl (lv_at hl 4 rfl) ?_
    refine y_cVi (D := (dC, dI)) (cl := vwCl) (tys := yt ca) (nw := zw_nest) (C := RX10) (As := []) (rest := []) ⟨hx, hb, hml, hown, hts⟩ (m_X10_thrown0 l dC dI ca mo (ar 0) 0 0) (cwV 0 hts gL_law_X10_thrown rfl rfl rfl (by decide +kernel) ⟨Nat.le_of_ble_eq_true rfl, Nat.le_of_ble_eq_true rfl⟩) (va_recv hK9 (y_one hMo) (ci := 10) rfl (q0 := 0) rfl) hMo hK9 hN hAO zw_nest_ok rfl hl.1 rfl (Nat.le_of_ble_eq_true rfl) dL_law_722 ⟨(by show 146 + 0 ≤ 656031; omega), (by show 780 + 0 ≤ 7134144; omega)⟩ hS (fun _ h => h.elim) (fun H locs hB1 oq1 hz1 hS => ?_)
    have hO := va_at.kept hO (oq1 _ (va_at.lt hO) (fun h => h))
    refine lv_iload hx hb dL_law_725 (lv_at hl 1 rfl) ?_
    refine lv_icmp_eq (tgt := 732) hx hb dL_law_727 (by decide) (fun _ => ?_) (fun c9 => absurd rfl c9)
    refine lv_iload hx hb dL_law_732 (lv_at hl 1 rfl) ?_
    refine lv_if_ne (tgt := 749) hx hb dL_law_734 (by decide) (fun c9 => absurd c9 (by decide)) (fun _ => ?_)
    refine lv_aload_n hx hb dL_law_737 rfl (lv_at hl 3 rfl) ?_
    refine lv_iconst (v := 0) hx hb dL_law_738 (by decide) ?_
    refine va_lald hx hb hK (y_one hO) 0 6 rfl rfl (zx (n := 0) (N := 1) (x := 0) rfl (by decide) (by decide)) dL_law_739 ?_
    refine y_lng (b := (20 : Int32).toInt64) rfl ?_
    refine lv_iload hx hb dL_law_740 (lv_at hl 0 rfl) ?_
    refine lv_i2l hx hb dL_law_742 rfl ?_
    refine W.lcmp hx hb dL_law_743 ?_
    refine y_num (b := 0) (lg_self _) ?_
    refine lv_if_eq (tgt := 749) hx hb dL_law_744 (by decide) (fun _ => ?_) (fun c9 => absurd rfl c9)
    refine lv_goto (tgt := 1716) hx hb dL_law_749 (by decide) ?_
    refine W.widen (k := 656031) (n := 7134144) (by show 146 ≤ 656031; omega) (by show 780 ≤ 7134144; omega) ?_
    exact hJ _ _ _ (lv_sub hl [2, 3, 4, 5, 6] rfl) hS
  · skip
    refine lv_aload_n hx hb dL_law_696 rfl (lv_at hl 3 rfl) ?_
    refine lv_aload_n hx hb dL_law_697 rfl (lv_at hl 4 rfl) ?_
    refine lv_iload hx hb dL_law_698 (lv_at hl 0 rfl) ?_
    refine lv_iconst (v := 1) hx hb dL_law_700 (by decide) ?_
    refine lv_iadd hx hb dL_law_701 ?_
    refine y_num (b := 1) (by decide) ?_
    refine va_sld hx hb hX hbl hbA hS (show vp_in 1 6 from zx (n := 1) rfl (by decide) (by decide)) dL_law_702 ?_
    refine y_num (b := (xs 1)) (show xs 1 = (xs 1) from rfl) ?_
    refine lv_aload_n hx hb dL_law_703 rfl (lv_at hl 1 rfl) ?_
    refine z_cWx (D := (dC, dI)) (cl := vwCl) (tys := lt9 ca) (nw := zw_nest) (av := [.ref sf, .int (xs 1), .ref ob]) (rest := []) ⟨hx, hb, hml, hown, hts⟩ (m_L_turbinex l hl9 dC dI ca sf ad ad2 ob zMi zMi (xs 1) h) (vx_cwSW 3 hts gL_law_L_turbine rfl rfl rfl (by decide +kernel) ⟨Nat.le_of_ble_eq_true rfl, Nat.le_of_ble_eq_true rfl⟩) ⟨hT, hC1, hC2⟩ hK hN hEx zw_nest_ok rfl hl.1 rfl (Nat.le_of_ble_eq_true rfl) dL_law_704 ⟨(by show 146 + 1 ≤ 656031; omega), (by show 780 + 6 ≤ 7134144; omega)⟩ hS (fun H locs oq1 hz1 hS => ?_)
    have hMo := va_at.kept hMo (oq1 _ (va_at.lt hMo))
    have hR := hR.kept (fun i hi => oq1 _ (hR.lt hi))
    have hO := va_at.kept hO (oq1 _ (va_at.lt hO))
    refine lv_istore (lv' := [(5, .int 1), (4, .int 0), (3, .ref ob), (2, .ref mo), (1, .ref sf), (0, .ref b)]) hx hb dL_law_707 hl (by decide) rfl (fun ls hl => ?_)
    refine lv_aload_n hx hb dL_law_709 rfl (lv_at hl 3 rfl) ?_
    refine lv_aload_n hx hb dL_law_710 rfl (lv_at hl 5 rfl) ?_
    refine lv_iload hx hb dL_law_711 (lv_at hl 1 rfl) ?_
    refine lv_iconst (v := 1) hx hb dL_law_713 (by decide) ?_
    refine lv_iadd hx hb dL_law_714 ?_
    refine y_num (b := 1) (by decide) ?_
    refine va_sld hx hb hX hbl hbA hS (show vp_in 1 6 from zx (n := 1) rfl (by decide) (by decide)) dL_law_715 ?_
    refine y_num (b := (xs 1)) (show xs 1 = (xs 1) from rfl) ?_
    refine y_cVi (D := (dC, dI)) (cl := vwCl) (tys := yt ca) (nw := zw_nest) (C := RX10) (As := [.int (xs 1)]) (rest := []) ⟨hx, hb, hml, hown, hts⟩ (m_X10_turbinen l dC dI ca mo _ ar hIr hmr 0 0 (xs 1) h) (cwV 1 hts gL_law_X10_turbine rfl rfl rfl (by decide +kernel) ⟨Nat.le_of_ble_eq_true rfl, Nat.le_of_ble_eq_true rfl⟩) (va_recv hK9 (y_one hMo) (ci := 10) rfl (q0 := 0) rfl) ⟨rfl, hMo, hR⟩ hK9 hN hAO zw_nest_ok rfl hl.1 rfl (Nat.le_of_ble_eq_true rfl) dL_law_716 ⟨(by show 147 + 0 ≤ 656031; omega), (by show 786 + 0 ≤ 7134144; omega)⟩ hS (yA_law hmo (fun i hi => Nat.le_trans hmo (Nat.le_of_lt (hrb i hi).1)) hS.1) (fun H locs hB1 oq1 hz1 hS => ?_)
    have hO := va_at.kept hO (oq1 _ (va_at.lt hO) (yA_ob hob hrb (va_at.lt hO)))
    obtain ⟨hMo, hR⟩ := hB1
    refine lv_istore (lv' := [(6, .int 0), (5, .int 1), (4, .int 0), (3, .ref ob), (2, .ref mo), (1, .ref sf), (0, .ref b)]) hx hb dL_law_719 hl (by decide) rfl (fun ls hl => ?_)
    refine lv_aload_n hx hb dL_law_721 rfl (lv_at hl 4 rfl) ?_
    refine y_cVi (D := (dC, dI)) (cl := vwCl) (tys := yt ca) (nw := zw_nest) (C := RX10) (As := []) (rest := []) ⟨hx, hb, hml, hown, hts⟩ (m_X10_thrown0 l dC dI ca mo (ar 0) 1 0) (cwV 0 hts gL_law_X10_thrown rfl rfl rfl (by decide +kernel) ⟨Nat.le_of_ble_eq_true rfl, Nat.le_of_ble_eq_true rfl⟩) (va_recv hK9 (y_one hMo) (ci := 10) rfl (q0 := 0) rfl) hMo hK9 hN hAO zw_nest_ok rfl hl.1 rfl (Nat.le_of_ble_eq_true rfl) dL_law_722 ⟨(by show 147 + 0 ≤ 656031; omega), (by show 786 + 0 ≤ 7134144; omega)⟩ hS (fun _ h => h.elim) (fun H locs hB1 oq1 hz1 hS => ?_)
    have hO := va_at.kept hO (oq1 _ (va_at.lt hO) (fun h => h))
    refine lv_iload hx hb dL_law_725 (lv_at hl 1 rfl) ?_
    refine lv_icmp_eq (tgt := 732) hx hb dL_law_727 (by decide) (fun _ => ?_) (fun c9 => absurd rfl c9)
    refine lv_iload hx hb dL_law_732 (lv_at hl 1 rfl) ?_
    refine lv_if_ne (tgt := 749) hx hb dL_law_734 (by decide) (fun _ => ?_) (fun c9 => absurd c9 (by decide))
    refine lv_goto (tgt := 1716) hx hb dL_law_749 (by decide) ?_
    refine W.widen (k := 656031) (n := 7134144) (by show 147 ≤ 656031; omega) (by show 786 ≤ 7134144; omega) ?_
    exact hJ _ _ _ (lv_sub hl [2, 3, 4, 5, 6] rfl) hS
set_option maxHeartbeats 4000000 in
set_option maxRecDepth 100000 in
theorem la_town {p : Program} {e : Env} {s : State} {m : MethodId} {below : List Frame} {meth : Method} {c : Code} {Q : State → Prop} (l : Launch) (hl9 : l.stackTraces = false) {b : Nat} {xs : Nat → Int32} (dC : Nat → ClassId) (dI : Nat → Nat → Nat) (ca : Nat → ClassId)
    (hx : p.tables.exec = Jvm.exec) (hb : c.code = cL_law) (hml : c.maxLocals = 9) (hown : s.vm.findClass RL = some m.cls) (hts : ∀ w ∈ wsL_law, w.before #[Value.ref b] s = true) (hX : va_X b 6 xs s s.heap) (hbl : b < s.heap.size) (hK : va_K (dC, dI) vwCl (lt9 ca) s) (hN : z_N zw_nest s) (hAO : va_AOA .int s) (hEx : zEx9 (fun q => s.heap.size ≤ q) s)
    (sf mo ob : Nat) (ad ad2 ar : Nat → Nat) (hI : z_I zd ad) (hI2 : z_I zd ad2) (hq : zSep sf ad ad2) (hA2 : ∀ q, zA2 ad ad2 q → s.heap.size ≤ q ∧ q < mo) (hIr : z_I yd ar) (hrb : ∀ i, yd.1 i < 200 → mo < ar i ∧ ar i < ob) (hmo : s.heap.size ≤ mo) (hob : mo < ob)
    (H : Heap) (locs : List Loc) (ls : Array Slot) (hl : lv_has ls 9 [(4, .int 0), (3, .ref ob), (2, .ref mo), (1, .ref sf), (0, .ref b)]) (hT : zT dC dI ca sf (ad 0) (ad2 0) H) (hC1 : zW dC dI ca ad zMi H) (hC2 : zW dC dI ca ad2 zMi H) (hMo : yMo dC dI mo 0 (ar 0) 0 H) (hR : yW dC dI ca ar (yM 0) H) (hO : yO dC dI ca ob (fun _ => 0) H) (hS : va_S (fun q => s.heap.size ≤ q) s.heap H locs)
    (hJ : ∀ (H : Heap) (locs : List Loc) (ls : Array Slot), lv_has ls 9 [(4, .int 0), (3, .ref ob), (2, .ref mo), (1, .ref sf), (0, .ref b)] → va_S (fun q => s.heap.size ≤ q) s.heap H locs → W p l e room_1 s m #[Value.ref b] below meth c H locs 656031 7134144 Q (F0 m 1716 ls [])) : W p l e room_1 s m #[Value.ref b] below meth c H locs 146 780 Q (F0 m 752 ls []) := by
  have hbA : ¬ (fun q => s.heap.size ≤ q) b := Nat.not_le.mpr hbl
  have hK5 : va_K (dC, dI) vwCl (zt ca) s := va_K.sub hK [0, 1, 2, 3, 4] rfl
  have hK9 : va_K (dC, dI) vwCl (yt ca) s := va_K.sub hK [0, 5] rfl
  have hmr : ∀ i, yd.1 i < 200 → ar i ≠ mo := fun i hi => by have h1 := hrb i hi; omega
  have hob2 : ¬ zA2 ad ad2 ob := fun h => by have h1 := hA2 _ h; omega
  have hAz : ∀ q, zA2 ad ad2 q → (fun q => s.heap.size ≤ q) q := fun q h => (hA2 q h).1
  have hAo : ∀ q, zAo ad ad2 ob q → (fun q => s.heap.size ≤ q) q := by
    rintro q (h | h)
    · exact (hA2 q h).1
    · rw [h]; show s.heap.size ≤ ob; omega
  have hmoA : ¬ zAo ad ad2 ob mo := by
    rintro (h | h)
    · have h1 := hA2 _ h; omega
    · omega
  have hrA : ∀ i, yd.1 i < 200 → ¬ zAo ad ad2 ob (ar i) := fun i hi => by
    have h2 := hrb i hi
    rintro (h | h)
    · have h1 := hA2 _ h; omega
    · omega
  by_cases h : z_rg (xs 1) 0 999
  · refine lv_aload_n hx hb dL_law_752 rfl (lv_at hl 3 rfl) ?_
    refine lv_aload_n hx hb dL_law_753 rfl (lv_at hl 4 rfl) ?_
    refine lv_iload hx hb dL_law_754 (lv_at hl 0 rfl) ?_
    refine lv_iconst (v := 1) hx hb dL_law_756 (by decide) ?_
    refine lv_iadd hx hb dL_law_757 ?_
    refine y_num (b := 1) (by decide) ?_
    refine va_sld hx hb hX hbl hbA hS (show vp_in 1 6 from zx (n := 1) rfl (by decide) (by decide)) dL_law_758 ?_
    refine y_num (b := (xs 1)) (show xs 1 = (xs 1) from rfl) ?_
    refine lv_aload_n hx hb dL_law_759 rfl (lv_at hl 1 rfl) ?_
    refine z_cW (D := (dC, dI)) (cl := vwCl) (tys := lt9 ca) (nw := zw_nest) (av := [.ref sf, .int (xs 1), .ref ob]) (rest := []) ⟨hx, hb, hml, hown, hts⟩ (m_L_towny l dC dI ca sf ad hI ad2 hI2 hq ob hob2 (fun _ => 0) zMi zMi (xs 1) zOkMi h) (vx_cwSW 3 hts gL_law_L_town rfl rfl rfl (by decide +kernel) ⟨Nat.le_of_ble_eq_true rfl, Nat.le_of_ble_eq_true rfl⟩) ⟨⟨hT, hC1, hC2⟩, hO⟩ hK hN zw_nest_ok rfl hl.1 rfl (Nat.le_of_ble_eq_true rfl) dL_law_760 ⟨(by show 146 + 0 ≤ 656031; omega), (by show 780 + 0 ≤ 7134144; omega)⟩ hS hAo (fun H locs hB1 oq1 hz1 hS => ?_)
    have hO := hB1
    rw [vX_town _] at hO
    have hMo := va_at.kept hMo (oq1 _ (va_at.lt hMo) hmoA)
    have hR := hR.kept (fun i hi => oq1 _ (hR.lt hi) (hrA i hi))
    refine lv_istore (lv' := [(5, .int 0), (4, .int 0), (3, .ref ob), (2, .ref mo), (1, .ref sf), (0, .ref b)]) hx hb dL_law_763 hl (by decide) rfl (fun ls hl => ?_)
    refine lv_aload_n hx hb dL_law_765 rfl (lv_at hl 3 rfl) ?_
    refine lv_aload_n hx hb dL_law_766 rfl (lv_at hl 5 rfl) ?_
    refine lv_iload hx hb dL_law_767 (lv_at hl 1 rfl) ?_
    refine lv_iconst (v := 1) hx hb dL_law_769 (by decide) ?_
    refine lv_iadd hx hb dL_law_770 ?_
    refine y_num (b := 1) (by decide) ?_
    refine va_sld hx hb hX hbl hbA hS (show vp_in 1 6 from zx (n := 1) rfl (by decide) (by decide)) dL_law_771 ?_
    refine y_num (b := (xs 1)) (show xs 1 = (xs 1) from rfl) ?_
    refine y_cVi (D := (dC, dI)) (cl := vwCl) (tys := yt ca) (nw := zw_nest) (C := RX10) (As := [.int (xs 1)]) (rest := []) ⟨hx, hb, hml, hown, hts⟩ (m_X10_towny l dC dI ca mo _ ar hIr hmr 0 0 (xs 1) h) (cwV 1 hts gL_law_X10_town rfl rfl rfl (by decide +kernel) ⟨Nat.le_of_ble_eq_true rfl, Nat.le_of_ble_eq_true rfl⟩) (va_recv hK9 (y_one hMo) (ci := 10) rfl (q0 := 0) rfl) ⟨rfl, hMo, hR⟩ hK9 hN hAO zw_nest_ok rfl hl.1 rfl (Nat.le_of_ble_eq_true rfl) dL_law_772 ⟨(by show 146 + 0 ≤ 656031; omega), (by show 780 + 0 ≤ 7134144; omega)⟩ hS (yA_law hmo (fun i hi => Nat.le_trans hmo (Nat.le_of_lt (hrb i hi).1)) hS.1) (fun H locs hB1 oq1 hz1 hS => ?_)
    have hO := va_at.kept hO (oq1 _ (va_at.lt hO) (yA_ob hob hrb (va_at.lt hO)))
    have hMo := hB1
    refine lv_istore (lv' := [(6, .int 0), (5, .int 0), (4, .int 0), (3, .ref ob), (2, .ref mo), (1, .ref sf), (0, .ref b)]) hx hb dL_law_775 hl (by decide) rfl (fun ls hl => ?_)
    refine lv_aload_n hx hb dL_law_777 rfl (lv_at hl 4 rfl) ?_
    refine y_cVi (D := (dC, dI)) (cl := vwCl) (tys := yt ca) (nw := zw_nest) (C := RX10) (As := []) (rest := []) ⟨hx, hb, hml, hown, hts⟩ (m_X10_thrown0 l dC dI ca mo (ar 0) 0 0) (cwV 0 hts gL_law_X10_thrown rfl rfl rfl (by decide +kernel) ⟨Nat.le_of_ble_eq_true rfl, Nat.le_of_ble_eq_true rfl⟩) (va_recv hK9 (y_one hMo) (ci := 10) rfl (q0 := 0) rfl) hMo hK9 hN hAO zw_nest_ok rfl hl.1 rfl (Nat.le_of_ble_eq_true rfl) dL_law_778 ⟨(by show 146 + 0 ≤ 656031; omega), (by show 780 + 0 ≤ 7134144; omega)⟩ hS (fun _ h => h.elim) (fun H locs hB1 oq1 hz1 hS => ?_)
    have hO := va_at.kept hO (oq1 _ (va_at.lt hO) (fun h => h))
    refine lv_iload hx hb dL_law_781 (lv_at hl 1 rfl) ?_
    refine lv_icmp_eq (tgt := 788) hx hb dL_law_783 (by decide) (fun _ => ?_) (fun c9 => absurd rfl c9)
    refine lv_iload hx hb dL_law_788 (lv_at hl 1 rfl) ?_
    refine lv_if_ne (tgt := 805) hx hb dL_law_790 (by decide) (fun c9 => absurd c9 (by decide)) (fun _ => ?_)
    refine lv_aload_n hx hb dL_law_793 rfl (lv_at hl 3 rfl) ?_
    refine lv_iconst (v := 0) hx hb dL_law_794 (by decide) ?_
    refine va_lald hx hb hK (y_one hO) 0 6 rfl rfl (zx (n := 0) (N := 1) (x := 0) rfl (by decide) (by decide)) dL_law_795 ?_
    refine y_lng (b := (0 : Int32).toInt64) rfl ?_
    refine lv_iload hx hb dL_law_796 (lv_at hl 0 rfl) ?_
    refine lv_i2l hx hb dL_law_798 rfl ?_
    refine W.lcmp hx hb dL_law_799 ?_
    refine y_num (b := 0) (lg_self _) ?_
    refine lv_if_eq (tgt := 805) hx hb dL_law_800 (by decide) (fun _ => ?_) (fun c9 => absurd rfl c9)
    refine lv_goto (tgt := 1716) hx hb dL_law_805 (by decide) ?_
    refine W.widen (k := 656031) (n := 7134144) (by show 146 ≤ 656031; omega) (by show 780 ≤ 7134144; omega) ?_
    exact hJ _ _ _ (lv_sub hl [2, 3, 4, 5, 6] rfl) hS
  · skip
    refine lv_aload_n hx hb dL_law_752 rfl (lv_at hl 3 rfl) ?_
    refine lv_aload_n hx hb dL_law_753 rfl (lv_at hl 4 rfl) ?_
    refine lv_iload hx hb dL_law_754 (lv_at hl 0 rfl) ?_
    refine lv_iconst (v := 1) hx hb dL_law_756 (by decide) ?_
    refine lv_iadd hx hb dL_law_757 ?_
    refine y_num (b := 1) (by decide) ?_
    refine va_sld hx hb hX hbl hbA hS (show vp_in 1 6 from zx (n := 1) rfl (by decide) (by decide)) dL_law_758 ?_
    refine y_num (b := (xs 1)) (show xs 1 = (xs 1) from rfl) ?_
    refine lv_aload_n hx hb dL_law_759 rfl (lv_at hl 1 rfl) ?_
    refine z_cWx (D := (dC, dI)) (cl := vwCl) (tys := lt9 ca) (nw := zw_nest) (av := [.ref sf, .int (xs 1), .ref ob]) (rest := []) ⟨hx, hb, hml, hown, hts⟩ (m_L_townx l hl9 dC dI ca sf ad ad2 ob zMi zMi (xs 1) h) (vx_cwSW 3 hts gL_law_L_town rfl rfl rfl (by decide +kernel) ⟨Nat.le_of_ble_eq_true rfl, Nat.le_of_ble_eq_true rfl⟩) ⟨hT, hC1, hC2⟩ hK hN hEx zw_nest_ok rfl hl.1 rfl (Nat.le_of_ble_eq_true rfl) dL_law_760 ⟨(by show 146 + 1 ≤ 656031; omega), (by show 780 + 6 ≤ 7134144; omega)⟩ hS (fun H locs oq1 hz1 hS => ?_)
    have hMo := va_at.kept hMo (oq1 _ (va_at.lt hMo))
    have hR := hR.kept (fun i hi => oq1 _ (hR.lt hi))
    have hO := va_at.kept hO (oq1 _ (va_at.lt hO))
    refine lv_istore (lv' := [(5, .int 1), (4, .int 0), (3, .ref ob), (2, .ref mo), (1, .ref sf), (0, .ref b)]) hx hb dL_law_763 hl (by decide) rfl (fun ls hl => ?_)
    refine lv_aload_n hx hb dL_law_765 rfl (lv_at hl 3 rfl) ?_
    refine lv_aload_n hx hb dL_law_766 rfl (lv_at hl 5 rfl) ?_
    refine lv_iload hx hb dL_law_767 (lv_at hl 1 rfl) ?_
    refine lv_iconst (v := 1) hx hb dL_law_769 (by decide) ?_
    refine lv_iadd hx hb dL_law_770 ?_
    refine y_num (b := 1) (by decide) ?_
    refine va_sld hx hb hX hbl hbA hS (show vp_in 1 6 from zx (n := 1) rfl (by decide) (by decide)) dL_law_771 ?_
    refine y_num (b := (xs 1)) (show xs 1 = (xs 1) from rfl) ?_
    refine y_cVi (D := (dC, dI)) (cl := vwCl) (tys := yt ca) (nw := zw_nest) (C := RX10) (As := [.int (xs 1)]) (rest := []) ⟨hx, hb, hml, hown, hts⟩ (m_X10_townn l dC dI ca mo _ ar hIr hmr 0 0 (xs 1) h) (cwV 1 hts gL_law_X10_town rfl rfl rfl (by decide +kernel) ⟨Nat.le_of_ble_eq_true rfl, Nat.le_of_ble_eq_true rfl⟩) (va_recv hK9 (y_one hMo) (ci := 10) rfl (q0 := 0) rfl) ⟨rfl, hMo, hR⟩ hK9 hN hAO zw_nest_ok rfl hl.1 rfl (Nat.le_of_ble_eq_true rfl) dL_law_772 ⟨(by show 147 + 0 ≤ 656031; omega), (by show 786 + 0 ≤ 7134144; omega)⟩ hS (yA_law hmo (fun i hi => Nat.le_trans hmo (Nat.le_of_lt (hrb i hi).1)) hS.1) (fun H locs hB1 oq1 hz1 hS => ?_)
    have hO := va_at.kept hO (oq1 _ (va_at.lt hO) (yA_ob hob hrb (va_at.lt hO)))
    obtain ⟨hMo, hR⟩ := hB1
    refine lv_istore (lv' := [(6, .int 0), (5, .int 1), (4, .int 0), (3, .ref ob), (2, .ref mo), (1, .ref sf), (0, .ref b)]) hx hb dL_law_775 hl (by decide) rfl (fun ls hl => ?_)
    refine lv_aload_n hx hb dL_law_777 rfl (lv_at hl 4 rfl) ?_
    refine y_cVi (D := (dC, dI)) (cl := vwCl) (tys := yt ca) (nw := zw_nest) (C := RX10) (As := []) (rest := []) ⟨hx, hb, hml, hown, hts⟩ (m_X10_thrown0 l dC dI ca mo (ar 0) 1 0) (cwV 0 hts gL_law_X10_thrown rfl rfl rfl (by decide +kernel) ⟨Nat.le_of_ble_eq_true rfl, Nat.le_of_ble_eq_true rfl⟩) (va_recv hK9 (y_one hMo) (ci := 10) rfl (q0 := 0) rfl) hMo hK9 hN hAO zw_nest_ok rfl hl.1 rfl (Nat.le_of_ble_eq_true rfl) dL_law_778 ⟨(by show 147 + 0 ≤ 656031; omega), (by show 786 + 0 ≤ 7134144; omega)⟩ hS (fun _ h => h.elim) (fun H locs hB1 oq1 hz1 hS => ?_)
    have hO := va_at.kept hO (oq1 _ (va_at.lt hO) (fun h => h))
    refine lv_iload hx hb dL_law_781 (lv_at hl 1 rfl) ?_
    refine lv_icmp_eq (tgt := 788) hx hb dL_law_783 (by decide) (fun _ => ?_) (fun c9 => absurd rfl c9)
    refine lv_iload hx hb dL_law_788 (lv_at hl 1 rfl) ?_
    refine lv_if_ne (tgt := 805) hx hb dL_law_790 (by decide) (fun _ => ?_) (fun c9 => absurd c9 (by decide))
    refine lv_goto (tgt := 1716) hx hb dL_law_805 (by decide) ?_
    refine W.widen (k := 656031) (n := 7134144) (by show 147 ≤ 656031; omega) (by show 786 ≤ 7134144; omega) ?_
    exact hJ _ _ _ (lv_sub hl [2, 3, 4, 5, 6] rfl) hS
