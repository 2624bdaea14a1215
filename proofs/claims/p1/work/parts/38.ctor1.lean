/-! ===== constructors: worlds that grow ===== -/
def zAO (U : State) : Prop := va_AO RX0 U ∧ va_AO RX2 U ∧ va_AO RX7 U ∧ va_AO RX5 U
theorem zAO.moved {u U : State} (hvm : u.vm.Alike U.vm) (h : zAO u) : zAO U := ⟨h.1.moved hvm, h.2.1.moved hvm, h.2.2.1.moved hvm, h.2.2.2.moved hvm⟩
abbrev z_Pn (D : va_G) (cl : List vw_C) (tys : List (ClassId × FieldType)) (nw : List Cond) (av : List Value) (B : Heap → Prop) : Array Value → State → Prop := va_Pc av (fun U => B U.heap ∧ va_K D cl tys U ∧ z_N nw U ∧ zAO U)
theorem z_blindn {D : va_G} {cl : List vw_C} {tys : List (ClassId × FieldType)} {nw : List Cond} (hn : nw.all z_nest = true) {av : List Value} {B : Heap → Prop} : FrameBlind (z_Pn D cl tys nw av B) := fun a U g mk q => by
  obtain ⟨q0, qB, qK, qN, qX⟩ := q
  exact ⟨q0, qB, va_K.moved (u := U) (U := U.calling g mk a) (Vm.Alike.refl U.vm) qK, z_N.same (s := U) (U := U.calling g mk a) hn rfl qN, zAO.moved (u := U) (U := U.calling g mk a) (Vm.Alike.refl U.vm) qX⟩
section ZC5
variable {p : Program} {l : Launch} {e : Env} {R : Room} {s : State} {m : MethodId} {args : Array Value} {below : List Frame} {meth : Method} {c : Code} {H : Heap} {locs : List Loc} {cells slots : Nat} {Q : State → Prop}
variable {cc : ByteArray} {pc nL : Nat} {ls : Array Slot} {rest st0 : List Value} {D : va_G} {cl : List vw_C} {A0 A1 : Nat → Prop} {tys : List (ClassId × FieldType)} {H0 : Heap} {nw : List Cond}
variable {y : MethodName} {bytes : ByteArray} {maxL n index mc ms : Nat} {ws Ts : List Cond} {rm : Room} {own host : String} {b : Addr} {As : List Value} {B B' : Heap → Prop}
theorem z_cIN (S : CallFix p m c cc nL s args Ts own) (hM : Met l y ws rm (z_Pn D cl tys nw (.ref b :: As) B) (z_Qv B' A1) mc ms A1) (cw : va_CN R s args own index y host bytes maxL none ws rm mc ms n ∧ y.name = "<init>" ∧ (Cond.instanceMethod y).before args s = true)
    (hB : B H) (hK : va_K D cl tys s) (hN : z_N nw s) (hX : zAO s) (hnw : nw.all z_nest = true) (hn : As.length = n) (hsize : ls.size = nL) (hst : st0 = As.reverse ++ .ref b :: rest) (hW : (rest.map fun v => v.category).sum ≤ 8) (hdg : decode cc pc = .ok (.invokespecial index, 3)) (hf : cells + mc ≤ R.cells ∧ slots + ms ≤ R.slots) (hS : va_S A0 H0 H locs) (hA : ∀ q, A1 q → A0 q)
    (kk : ∀ (H1 : Heap) (locs1 : List Loc), B' H1 → (∀ q : Nat, q < H.size → ¬ A1 q → H1[q]? = H[q]?) → H.size ≤ H1.size → va_S A0 H0 H1 locs1 → W p l e R s m args below meth c H1 locs1 (cells + mc) (slots + ms) Q (F0 m (pc + 3) ls rest)) : W p l e R s m args below meth c H locs cells slots Q (F0 m pc ls st0) := by
  refine va_callv (va_runIN S hM cw ⟨z_blindn hnw, fun U hU hW => ⟨rfl, by rw [hU]; exact hB, va_K.moved hW.alike hK, hN.warm hnw hW, hX.moved hW.alike⟩⟩ rfl hn hsize hst (lv_room hW) hdg hf) hS (fun q _ h => hA q h) hA (fun u t H1 locs1 ht hvm hw hB1 hz1 hk1 hS1 => ?_)
  rw [ht] at hB1
  exact kk H1 locs1 hB1 hk1 hz1 hS1
theorem z_cIP (S : CallFix p m c cc nL s args Ts own) (hM : Met l y ws rm (z_Pn D cl tys nw (.ref b :: As) B) (z_Qv B' A1) mc ms A1) (cw : CallB R s args own index y bytes maxL none ws rm mc ms n ∧ y.name = "<init>" ∧ (Cond.instanceMethod y).before args s = true)
    (hB : B H) (hK : va_K D cl tys s) (hN : z_N nw s) (hX : zAO s) (hnw : nw.all z_nest = true) (hn : As.length = n) (hsize : ls.size = nL) (hst : st0 = As.reverse ++ .ref b :: rest) (hW : (rest.map fun v => v.category).sum ≤ 8) (hdg : decode cc pc = .ok (.invokespecial index, 3)) (hf : cells + mc ≤ R.cells ∧ slots + ms ≤ R.slots) (hS : va_S A0 H0 H locs) (hA : ∀ q, A1 q → A0 q)
    (kk : ∀ (H1 : Heap) (locs1 : List Loc), B' H1 → (∀ q : Nat, q < H.size → ¬ A1 q → H1[q]? = H[q]?) → H.size ≤ H1.size → va_S A0 H0 H1 locs1 → W p l e R s m args below meth c H1 locs1 (cells + mc) (slots + ms) Q (F0 m (pc + 3) ls rest)) : W p l e R s m args below meth c H locs cells slots Q (F0 m pc ls st0) := by
  refine va_callv (va_runI S hM cw ⟨z_blindn hnw, fun U hU hW => ⟨rfl, by rw [hU]; exact hB, va_K.moved hW.alike hK, hN.warm hnw hW, hX.moved hW.alike⟩⟩ rfl hn hsize hst (lv_room hW) hdg hf) hS (fun q _ h => hA q h) hA (fun u t H1 locs1 ht hvm hw hB1 hz1 hk1 hS1 => ?_)
  rw [ht] at hB1
  exact kk H1 locs1 hB1 hk1 hz1 hS1
end ZC5
theorem z_size {H H1 : Heap} {a : Nat} (oq : ∀ q : Nat, q ≠ a → H1[q]? = H[q]?) (ha : a < H.size) (ha1 : a < H1.size) : H1.size = H.size := by
  rcases Nat.lt_trichotomy H1.size H.size with h | h | h
  · have := oq H1.size (by omega)
    rw [Array.getElem?_eq_none (Nat.le_refl _), Array.getElem?_eq_getElem h] at this
    cases this
  · exact h
  · have := oq H.size (by omega)
    rw [Array.getElem?_eq_none (Nat.le_refl H.size), Array.getElem?_eq_getElem h] at this
    cases this
theorem z_born (k : Nat) (ty : Nat → FieldType) (N : Nat) (h : (List.range N).all (fun j => decide (defaultValue (ty j) = vp_V (z_fl (fun _ => none) (fun _ => 0) (zf k) 0) j)) = true) : ∀ j, j < N → defaultValue (ty j) = vp_V (z_fl (fun _ => none) (fun _ => 0) (zf k) 0) j := fun j hj => of_decide_eq_true (List.all_eq_true.mp h j (List.mem_range.mpr hj))
/-- where the cells of a land lie, behind each other from sz on, but the land itself -/
def zo (i : Nat) : Nat := if i < 8 then i - 1 else if i < 11 then i + 2 else if i < 14 then i - 4 else if i < 28 then 13 + 2 * (i - 20) else if i < 38 then 14 + 2 * (i - 30) else if i < 52 then 29 + (i - 40) else if i < 66 then 41 + (i - 60) else 47 + (i - 70)
def zoi (n : Nat) : Nat := if n < 7 then n + 1 else if n < 10 then n + 4 else if n < 13 then n - 2 else if n < 29 then (if (n - 13) % 2 = 0 then 20 + (n - 13) / 2 else 30 + (n - 14) / 2) else if n < 41 then 40 + (n - 29) else if n < 47 then 60 + (n - 41) else 70 + (n - 47)
def zad (h0 sz : Nat) (i : Nat) : Nat := if i = 0 then h0 else sz + zo i
theorem zo_ok : ∀ i, i < 73 → zk i < 200 → i ≠ 0 → zoi (zo i) = i ∧ zo i < 50 := by decide
theorem zk_lt73 {i : Nat} (h : zk i < 200) : i < 73 := by
  rcases Nat.lt_or_ge i 73 with h1 | h1
  · exact h1
  · have := zk_out h1; omega
theorem zad_inj {h0 sz : Nat} (h : h0 < sz) {i j : Nat} (hi : zk i < 200) (hj : zk j < 200) (e : zad h0 sz i = zad h0 sz j) : i = j := by
  unfold zad at e
  by_cases hi0 : i = 0
  · by_cases hj0 : j = 0
    · omega
    · rw [if_pos hi0, if_neg hj0] at e; omega
  · by_cases hj0 : j = 0
    · rw [if_neg hi0, if_pos hj0] at e; omega
    · rw [if_neg hi0, if_neg hj0] at e
      have a := (zo_ok i (zk_lt73 hi) hi hi0).1
      have b := (zo_ok j (zk_lt73 hj) hj hj0).1
      have : zo i = zo j := by omega
      rw [this] at a
      omega
theorem zad_rng {h0 sz i : Nat} (hi : zk i < 200) (h : i ≠ 0) : sz ≤ zad h0 sz i ∧ zad h0 sz i < sz + 50 := by
  unfold zad
  rw [if_neg h]
  have := (zo_ok i (zk_lt73 hi) hi h).2
  omega
def zsub (wd : zD) : Prop := ∀ a, wd.1 a < 200 → zk a < 200
theorem zsub.k {wd : zD} (h : zsub wd) {i : Nat} (c : Nat) (hi : zk i < 200) : zsub (zdk wd i c) := fun a ha => by
  by_cases e : a = i
  · rw [e]; exact hi
  · exact h a (by rw [← show (zdk wd i c).1 a = wd.1 a from if_neg e]; exact ha)
theorem zsub.r {wd : zD} (h : zsub wd) (i k j : Nat) : zsub (zdr wd i k j) := h
theorem zsub.inj {wd : zD} (h : zsub wd) {h0 sz : Nat} (hl : h0 < sz) {i : Nat} (hi : zk i < 200) : ∀ a, wd.1 a < 200 → zad h0 sz a = zad h0 sz i → a = i := fun a ha e => zad_inj hl (h a ha) hi e
set_option maxHeartbeats 4000000 in
set_option maxRecDepth 100000 in
theorem m_X6_init (l : Launch) (dC : Nat → ClassId) (dI : Nat → Nat → Nat) (ca : Nat → ClassId) (B : Heap → Prop) (h0 : Nat) : Met l yX6_init wsX6_init ({ frames := 1, cells := 0, slots := 0, locals := 12 }) (z_Pn (dC, dI) vwCl (zt ca) zw_nest [.ref h0] (fun H => B H)) (z_Qv (fun H => B H) (fun _ => False)) 0 0 (fun _ => False) := by
  refine Met.ofW (cc := cX6_init) (maxL := 1) (ret := none) (by decide) rfl ?_
  intro p e s m args below meth c s₁ B9 hml hv
  obtain ⟨rfl, hB, hK, hN, hX⟩ := hv
  have hx := B9.exec
  have hb := B9.bytes
  have hr := B9.returns
  have hts := atoms_spec (ws := wsX6_init) B9.pre
  have hown : s.vm.findClass RX6 = some m.cls := findClass_of_methodNamed B9.named
  have hlocks := B9.notSynchronized
  have hin2 : meth.name = "<init>" := (name_of_methodNamed B9.named B9.method).1
  have hS : va_S (fun _ => False) s.heap s.heap [] := va_S.rf
  have hl := lv_entry ([.ref h0]) (n := 1) (Nat.le_of_ble_eq_true rfl)
  rw [lg_entry_eq]
  generalize (lg_sl ([.ref h0]) ++ List.replicate (1 - (lg_sl ([.ref h0])).length) Slot.unset).toArray = ls at hl ⊢
  have hl : lv_has ls 1 [(0, .ref (h0))] := hl
  refine lv_aload_n hx hb dX6_init_0 rfl (lv_at hl 0 rfl) ?_
  refine W.objInit hx hb hown (hts (.methodLink RX6 1 objectInit) (by decide +kernel)) (hts (.instanceMethod objectInit) (by decide +kernel)) (hts _ (List.mem_of_getElem? (i := 3) rfl)) rfl (by rw [hml]; exact hl.1) rfl dX6_init_1 (Nat.le_of_ble_eq_true rfl) (Nat.le_of_ble_eq_true rfl) ?_
  refine W.eq (g2 := F0 m 4 ls []) rfl ?_
  exact W.vret hx hb hr (fun t ht hW => ⟨⟨(), rfl, trivial, z_to (B := fun H => B H) ht hB⟩, hS.F ht⟩) hS.2.2 dX6_init_4
set_option maxHeartbeats 4000000 in
set_option maxRecDepth 100000 in
theorem m_X2_init (l : Launch) (dC : Nat → ClassId) (dI : Nat → Nat → Nat) (ca : Nat → ClassId) (B : Heap → Prop) (h0 : Nat) : Met l yX2_init wsX2_init ({ frames := 1, cells := 0, slots := 0, locals := 12 }) (z_Pn (dC, dI) vwCl (zt ca) zw_nest [.ref h0] (fun H => B H)) (z_Qv (fun H => B H) (fun _ => False)) 0 0 (fun _ => False) := by
  refine Met.ofW (cc := cX2_init) (maxL := 1) (ret := none) (by decide) rfl ?_
  intro p e s m args below meth c s₁ B9 hml hv
  obtain ⟨rfl, hB, hK, hN, hX⟩ := hv
  have hx := B9.exec
  have hb := B9.bytes
  have hr := B9.returns
  have hts := atoms_spec (ws := wsX2_init) B9.pre
  have hown : s.vm.findClass RX2 = some m.cls := findClass_of_methodNamed B9.named
  have hlocks := B9.notSynchronized
  have hin2 : meth.name = "<init>" := (name_of_methodNamed B9.named B9.method).1
  have hS : va_S (fun _ => False) s.heap s.heap [] := va_S.rf
  have hl := lv_entry ([.ref h0]) (n := 1) (Nat.le_of_ble_eq_true rfl)
  rw [lg_entry_eq]
  generalize (lg_sl ([.ref h0]) ++ List.replicate (1 - (lg_sl ([.ref h0])).length) Slot.unset).toArray = ls at hl ⊢
  have hl : lv_has ls 1 [(0, .ref (h0))] := hl
  refine lv_aload_n hx hb dX2_init_0 rfl (lv_at hl 0 rfl) ?_
  refine W.objInit hx hb hown (hts (.methodLink RX2 1 objectInit) (by decide +kernel)) (hts (.instanceMethod objectInit) (by decide +kernel)) (hts _ (List.mem_of_getElem? (i := 3) rfl)) rfl (by rw [hml]; exact hl.1) rfl dX2_init_1 (Nat.le_of_ble_eq_true rfl) (Nat.le_of_ble_eq_true rfl) ?_
  refine W.eq (g2 := F0 m 4 ls []) rfl ?_
  exact W.vret hx hb hr (fun t ht hW => ⟨⟨(), rfl, trivial, z_to (B := fun H => B H) ht hB⟩, hS.F ht⟩) hS.2.2 dX2_init_4
set_option maxHeartbeats 4000000 in
set_option maxRecDepth 100000 in
theorem m_X7_init (l : Launch) (dC : Nat → ClassId) (dI : Nat → Nat → Nat) (ca : Nat → ClassId) (B : Heap → Prop) (h0 : Nat) : Met l yX7_init wsX7_init ({ frames := 1, cells := 0, slots := 0, locals := 12 }) (z_Pn (dC, dI) vwCl (zt ca) zw_nest [.ref h0] (fun H => B H)) (z_Qv (fun H => B H) (fun _ => False)) 0 0 (fun _ => False) := by
  refine Met.ofW (cc := cX7_init) (maxL := 1) (ret := none) (by decide) rfl ?_
  intro p e s m args below meth c s₁ B9 hml hv
  obtain ⟨rfl, hB, hK, hN, hX⟩ := hv
  have hx := B9.exec
  have hb := B9.bytes
  have hr := B9.returns
  have hts := atoms_spec (ws := wsX7_init) B9.pre
  have hown : s.vm.findClass RX7 = some m.cls := findClass_of_methodNamed B9.named
  have hlocks := B9.notSynchronized
  have hin2 : meth.name = "<init>" := (name_of_methodNamed B9.named B9.method).1
  have hS : va_S (fun _ => False) s.heap s.heap [] := va_S.rf
  have hl := lv_entry ([.ref h0]) (n := 1) (Nat.le_of_ble_eq_true rfl)
  rw [lg_entry_eq]
  generalize (lg_sl ([.ref h0]) ++ List.replicate (1 - (lg_sl ([.ref h0])).length) Slot.unset).toArray = ls at hl ⊢
  have hl : lv_has ls 1 [(0, .ref (h0))] := hl
  refine lv_aload_n hx hb dX7_init_0 rfl (lv_at hl 0 rfl) ?_
  refine W.objInit hx hb hown (hts (.methodLink RX7 3 objectInit) (by decide +kernel)) (hts (.instanceMethod objectInit) (by decide +kernel)) (hts _ (List.mem_of_getElem? (i := 3) rfl)) rfl (by rw [hml]; exact hl.1) rfl dX7_init_1 (Nat.le_of_ble_eq_true rfl) (Nat.le_of_ble_eq_true rfl) ?_
  refine W.eq (g2 := F0 m 4 ls []) rfl ?_
  exact W.vret hx hb hr (fun t ht hW => ⟨⟨(), rfl, trivial, z_to (B := fun H => B H) ht hB⟩, hS.F ht⟩) hS.2.2 dX7_init_4
set_option maxHeartbeats 4000000 in
set_option maxRecDepth 100000 in
theorem m_X5_init (l : Launch) (dC : Nat → ClassId) (dI : Nat → Nat → Nat) (ca : Nat → ClassId) (B : Heap → Prop) (h0 : Nat) : Met l yX5_init wsX5_init ({ frames := 1, cells := 0, slots := 0, locals := 12 }) (z_Pn (dC, dI) vwCl (zt ca) zw_nest [.ref h0] (fun H => B H)) (z_Qv (fun H => B H) (fun _ => False)) 0 0 (fun _ => False) := by
  refine Met.ofW (cc := cX5_init) (maxL := 1) (ret := none) (by decide) rfl ?_
  intro p e s m args below meth c s₁ B9 hml hv
  obtain ⟨rfl, hB, hK, hN, hX⟩ := hv
  have hx := B9.exec
  have hb := B9.bytes
  have hr := B9.returns
  have hts := atoms_spec (ws := wsX5_init) B9.pre
  have hown : s.vm.findClass RX5 = some m.cls := findClass_of_methodNamed B9.named
  have hlocks := B9.notSynchronized
  have hin2 : meth.name = "<init>" := (name_of_methodNamed B9.named B9.method).1
  have hS : va_S (fun _ => False) s.heap s.heap [] := va_S.rf
  have hl := lv_entry ([.ref h0]) (n := 1) (Nat.le_of_ble_eq_true rfl)
  rw [lg_entry_eq]
  generalize (lg_sl ([.ref h0]) ++ List.replicate (1 - (lg_sl ([.ref h0])).length) Slot.unset).toArray = ls at hl ⊢
  have hl : lv_has ls 1 [(0, .ref (h0))] := hl
  refine lv_aload_n hx hb dX5_init_0 rfl (lv_at hl 0 rfl) ?_
  refine W.objInit hx hb hown (hts (.methodLink RX5 1 objectInit) (by decide +kernel)) (hts (.instanceMethod objectInit) (by decide +kernel)) (hts _ (List.mem_of_getElem? (i := 3) rfl)) rfl (by rw [hml]; exact hl.1) rfl dX5_init_1 (Nat.le_of_ble_eq_true rfl) (Nat.le_of_ble_eq_true rfl) ?_
  refine W.eq (g2 := F0 m 4 ls []) rfl ?_
  exact W.vret hx hb hr (fun t ht hW => ⟨⟨(), rfl, trivial, z_to (B := fun H => B H) ht hB⟩, hS.F ht⟩) hS.2.2 dX5_init_4
set_option maxHeartbeats 4000000 in
set_option maxRecDepth 100000 in
theorem m_X0_init (l : Launch) (dC : Nat → ClassId) (dI : Nat → Nat → Nat) (ca : Nat → ClassId) (wd : zD) (M : zM) (h0 sz0 sz b : Nat) (hb8 : b < 8) (hl0 : h0 < sz0) (hs : zsub wd) (h1 : wd.1 (20 + b) = 0) (h2 : zad h0 sz0 (30 + b) = sz) (h3 : ∀ k, wd.2.1 (30 + b) k = none) (h4 : ∀ k, M (30 + b) k = 0) : Met l yX0_init wsX0_init ({ frames := 2, cells := 1, slots := 4, locals := 32 }) (z_Pn (dC, dI) vwCl (zt ca) zw_nest [.ref (zad h0 sz0 (20 + b))] (fun H => H.size = sz + 0 ∧ z_H (dC, dI) vwCl zf ca wd (zad h0 sz0) M H)) (z_Qv (fun H => H.size = sz + 1 ∧ z_H (dC, dI) vwCl zf ca (zdr (zdk wd (30 + b) 6) (20 + b) 0 (30 + b)) (zad h0 sz0) M H) (fun q => q = zad h0 sz0 (20 + b) ∨ sz ≤ q)) 1 4 (fun q => q = zad h0 sz0 (20 + b) ∨ sz ≤ q) := by
  refine Met.ofW (cc := cX0_init) (maxL := 1) (ret := none) (by decide) rfl ?_
  intro p e s m args below meth c s₁ B9 hml hv
  obtain ⟨rfl, ⟨hz, hH⟩, hK, hN, hX⟩ := hv
  have hx := B9.exec
  have hb := B9.bytes
  have hr := B9.returns
  have hts := atoms_spec (ws := wsX0_init) B9.pre
  have hown : s.vm.findClass RX0 = some m.cls := findClass_of_methodNamed B9.named
  have hlocks := B9.notSynchronized
  have hin2 : meth.name = "<init>" := (name_of_methodNamed B9.named B9.method).1
  have hS : va_S (fun q => q = zad h0 sz0 (20 + b) ∨ sz ≤ q) s.heap s.heap [] := va_S.rf
  have hA : ∀ q, s.heap.size ≤ q → (fun q => q = zad h0 sz0 (20 + b) ∨ sz ≤ q) q := fun q h => Or.inr (by rw [hz] at h; exact h)
  have hk30 : zk (30 + b) < 200 := by rw [zk_w hb8]; decide
  have hk20 : zk (20 + b) < 200 := by rw [zk_b hb8]; decide
  have hinX0 : ∀ w ∈ u_ws RX0 TX0 3, w ∈ wsX0_init := by decide +kernel
  have hinX6 : ∀ w ∈ u_ws RX6 TX6 4, w ∈ wsX0_init := by decide +kernel
  have hl := lv_entry ([.ref (zad h0 sz0 (20 + b))]) (n := 1) (Nat.le_of_ble_eq_true rfl)
  rw [lg_entry_eq]
  generalize (lg_sl ([.ref (zad h0 sz0 (20 + b))]) ++ List.replicate (1 - (lg_sl ([.ref (zad h0 sz0 (20 + b))])).length) Slot.unset).toArray = ls at hl ⊢
  have hl : lv_has ls 1 [(0, .ref (zad h0 sz0 (20 + b)))] := hl
  refine lv_aload_n hx hb dX0_init_0 rfl (lv_at hl 0 rfl) ?_
  refine W.objInit hx hb hown (hts (.methodLink RX0 1 objectInit) (by decide +kernel)) (hts (.instanceMethod objectInit) (by decide +kernel)) (hts _ (List.mem_of_getElem? (i := 3) rfl)) rfl (by rw [hml]; exact hl.1) rfl dX0_init_1 (Nat.le_of_ble_eq_true rfl) (Nat.le_of_ble_eq_true rfl) ?_
  refine W.eq (g2 := F0 m 4 ls []) rfl ?_
  refine lv_aload_n hx hb dX0_init_4 rfl (lv_at hl 0 rfl) ?_
  refine z_new (D := (dC, dI)) (cl := vwCl) (fl := zf) (ca := ca) (ad := zad h0 sz0) (C := RX6) (T := TX6) (N := 4) (ci := 6) (i := 30 + b) hx hb hts hinX6 tyX6 tyX6_ok hown (hts (.classLink RX0 7 RX6) (by decide +kernel)) (hts (.instantiable RX6 4) (by decide +kernel)) (hts (.initialized RX6) (by decide +kernel)) hK hH hS hA rfl (by decide) (by rw [hz]; exact h2) (h3) (h4) (z_born 6 tyX6 4 (by decide)) (Nat.le_of_ble_eq_true rfl) (Nat.le_of_ble_eq_true rfl) dX0_init_5 (fun H hH z1 o1 hS => ?_)
  have hz : H.size = sz + 1 := by omega
  refine lv_dup hx hb dX0_init_8 rfl ?_
  refine z_cIN (D := (dC, dI)) (cl := vwCl) (tys := zt ca) (nw := zw_nest) (As := []) (rest := [.ref (zad h0 sz0 (30 + b)), .ref (zad h0 sz0 (20 + b))]) ⟨hx, hb, hml, hown, hts⟩ (m_X6_init l dC dI ca (fun z => z = H) (zad h0 sz0 (30 + b))) ⟨va_cnB 0 hts gX0_init_X6_init_n9 rfl rfl rfl (hN (.methodLinkNest RX0 9 yX6_init "Steamfield") (by decide +kernel)) (hts (.initialized RX6) (by decide +kernel)) (by decide +kernel) ⟨Nat.le_of_ble_eq_true rfl, Nat.le_of_ble_eq_true rfl⟩, rfl, hts (.instanceMethod yX6_init) (by decide +kernel)⟩ rfl hK hN hX zw_nest_ok rfl hl.1 rfl (Nat.le_of_ble_eq_true rfl) dX0_init_9 ⟨Nat.le_of_ble_eq_true rfl, Nat.le_of_ble_eq_true rfl⟩ hS (fun _ h => h.elim) (fun H locs hB1 oq1 hz1 hS => ?_)
  rw [← hB1] at hH hz
  refine z_prF (D := (dC, dI)) (cl := vwCl) (fl := zf) (ca := ca) (ad := zad h0 sz0) (C := RX0) (T := TX0) (N := 3) (ci := 0) (i := 20 + b) (k := 0) (j := 30 + b) (ty := tyX0 0) hx hb hts hinX0 tyX0 tyX0_ok nmX0 hown hK hH ((hs.k 6 hk30).inj hl0 hk20) hS (Or.inl rfl) (show (zdk wd (30 + b) 6).1 (20 + b) = 0 from (if_neg (by omega)).trans h1) (by decide) rfl (by decide) rfl (hts (.fieldLink RX0 10 "Steamfield$Block" "water" "LSteamfield$Water;") (by decide +kernel)) (fun _ h9 => h9) rfl hin2 rfl (tyX0_ok 0 (by decide)) rfl rfl dX0_init_12 (fun H locs hH z2 oq hS => ?_)
  have hz : H.size = sz + 1 := by omega
  exact W.vret hx hb hr (fun t ht hW => ⟨⟨(), rfl, trivial, z_to (B := fun H => H.size = sz + 1 ∧ z_H (dC, dI) vwCl zf ca (zdr (zdk wd (30 + b) 6) (20 + b) 0 (30 + b)) (zad h0 sz0) M H) ht ⟨hz, hH⟩⟩, hS.F ht⟩) hS.2.2 dX0_init_15
set_option maxHeartbeats 4000000 in
set_option maxRecDepth 100000 in
theorem m_X4_init (l : Launch) (dC : Nat → ClassId) (dI : Nat → Nat → Nat) (ca : Nat → ClassId) (wd : zD) (M : zM) (ad : Nat → Nat) (hI : z_I wd ad) (sz : Nat) (h1 : wd.1 6 = 4) : Met l yX4_init wsX4_init ({ frames := 1, cells := 0, slots := 0, locals := 12 }) (z_Pn (dC, dI) vwCl (zt ca) zw_nest [.ref (ad 6)] (fun H => H.size = sz ∧ z_H (dC, dI) vwCl zf ca wd ad M H)) (z_Qv (fun H => H.size = sz ∧ z_H (dC, dI) vwCl zf ca wd ad (zu (zu M 6 0 20) 6 1 1) H) (z_A wd ad)) 0 0 (z_A wd ad) := by
  refine Met.ofW (cc := cX4_init) (maxL := 1) (ret := none) (by decide) rfl ?_
  intro p e s m args below meth c s₁ B9 hml hv
  obtain ⟨rfl, ⟨hz, hH⟩, hK, hN, hX⟩ := hv
  have hx := B9.exec
  have hb := B9.bytes
  have hr := B9.returns
  have hts := atoms_spec (ws := wsX4_init) B9.pre
  have hown : s.vm.findClass RX4 = some m.cls := findClass_of_methodNamed B9.named
  have hlocks := B9.notSynchronized
  have hin2 : meth.name = "<init>" := (name_of_methodNamed B9.named B9.method).1
  have hS : va_S (z_A wd ad) s.heap s.heap [] := va_S.rf
  have hinX4 : ∀ w ∈ u_ws RX4 TX4 6, w ∈ wsX4_init := by decide +kernel
  have hl := lv_entry ([.ref (ad 6)]) (n := 1) (Nat.le_of_ble_eq_true rfl)
  rw [lg_entry_eq]
  generalize (lg_sl ([.ref (ad 6)]) ++ List.replicate (1 - (lg_sl ([.ref (ad 6)])).length) Slot.unset).toArray = ls at hl ⊢
  have hl : lv_has ls 1 [(0, .ref (ad 6))] := hl
  refine lv_aload_n hx hb dX4_init_0 rfl (lv_at hl 0 rfl) ?_
  refine W.objInit hx hb hown (hts (.methodLink RX4 1 objectInit) (by decide +kernel)) (hts (.instanceMethod objectInit) (by decide +kernel)) (hts _ (List.mem_of_getElem? (i := 3) rfl)) rfl (by rw [hml]; exact hl.1) rfl dX4_init_1 (Nat.le_of_ble_eq_true rfl) (Nat.le_of_ble_eq_true rfl) ?_
  refine W.eq (g2 := F0 m 4 ls []) rfl ?_
  refine lv_aload_n hx hb dX4_init_4 rfl (lv_at hl 0 rfl) ?_
  refine lv_bipush (v := 20) hx hb dX4_init_5 (by decide) ?_
  refine zp_i (D := (dC, dI)) (cl := vwCl) (C := RX4) (T := TX4) (N := 6) (ci := 4) (i := 6) (k := 0) (ty := .int) hx hb hts hinX4 tyX4 tyX4_ok nmX4 hown hK hH hI hS (fun _ h => h) h1 (by decide) rfl (by decide) rfl (hts (.fieldLink RX4 7 "Steamfield$Plant" "size" "I") (by decide +kernel)) (fun _ h9 => h9) rfl (by decide +kernel) rfl rfl dX4_init_7 (fun H1 locs hH1 oq hS => ?_)
  have hz1 : H1.size = sz := by rw [z_size oq (hH.lt (i := 6) (by rw [h1]; decide)) (hH1.lt (i := 6) (by rw [h1]; decide)), hz]
  refine lv_aload_n hx hb dX4_init_10 rfl (lv_at hl 0 rfl) ?_
  refine lv_iconst (v := 1) hx hb dX4_init_11 (by decide) ?_
  refine zp_i (D := (dC, dI)) (cl := vwCl) (C := RX4) (T := TX4) (N := 6) (ci := 4) (i := 6) (k := 1) (ty := .boolean) hx hb hts hinX4 tyX4 tyX4_ok nmX4 hown hK hH1 hI hS (fun _ h => h) h1 (by decide) rfl (by decide) rfl (hts (.fieldLink RX4 13 "Steamfield$Plant" "isRunning" "Z") (by decide +kernel)) (fun _ h9 => h9) rfl (by decide +kernel) (by decide) (by decide) dX4_init_12 (fun H2 locs hH2 oq hS => ?_)
  have hz2 : H2.size = sz := by rw [z_size oq (hH1.lt (i := 6) (by rw [h1]; decide)) (hH2.lt (i := 6) (by rw [h1]; decide)), hz1]
  exact W.vret hx hb hr (fun t ht hW => ⟨⟨(), rfl, trivial, z_to (B := fun H => H.size = sz ∧ z_H (dC, dI) vwCl zf ca wd ad (zu (zu M 6 0 20) 6 1 1) H) ht ⟨hz2, hH2⟩⟩, hS.F ht⟩) hS.2.2 dX4_init_15
