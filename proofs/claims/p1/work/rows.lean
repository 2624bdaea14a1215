section
/-! ===== the world of a field: objects by small numbers (ids); what never changes stands in a description, the ints in M ===== -/
abbrev zM : Type := Nat → Nat → Int32
/-- kind of an id, its references, lengths of arrays -/
abbrev zD : Type := (Nat → Nat) × (Nat → Nat → Option Nat) × (Nat → Nat)
def zu (M : zM) (i k : Nat) (v : Int32) : zM := fun j q => if j = i ∧ q = k then v else M j q
theorem zu_self (M : zM) (i k : Nat) (v : Int32) : zu M i k v i k = v := by simp [zu]
theorem zu_id (M : zM) {i k j q : Nat} (v : Int32) (h : j ≠ i) : zu M i k v j q = M j q := by simp [zu, h]
theorem zu_fd (M : zM) {i k j q : Nat} (v : Int32) (h : q ≠ k) : zu M i k v j q = M j q := by simp [zu, h]
def z_fl (R : Nat → Option Nat) (x : Nat → Int32) : List Bool → Nat → List Value
  | [], _ => []
  | b :: l, i => (if b then va_rf (R i) else .int (x i)) :: z_fl R x l (i + 1)
theorem z_fl_get (R : Nat → Option Nat) (x : Nat → Int32) : ∀ (l : List Bool) (i k : Nat) (b : Bool), l[k]? = some b → (z_fl R x l i)[k]? = some (if b then va_rf (R (i + k)) else .int (x (i + k)))
  | [], i, k, b, h => by simp at h
  | c :: l, i, 0, b, h => by
    simp only [List.getElem?_cons_zero, Option.some.injEq] at h
    subst h
    simp [z_fl]
  | c :: l, i, k + 1, b, h => by
    simp only [List.getElem?_cons_succ] at h
    have := z_fl_get R x l (i + 1) k b h
    simp only [z_fl, List.getElem?_cons_succ, this]
    rw [show i + 1 + k = i + (k + 1) by omega]
theorem z_fl_len (R : Nat → Option Nat) (x : Nat → Int32) : ∀ (l : List Bool) (i : Nat), (z_fl R x l i).length = l.length
  | [], i => rfl
  | c :: l, i => by simp [z_fl, z_fl_len R x l (i + 1)]
theorem z_fl_out (R : Nat → Option Nat) (x : Nat → Int32) (k : Nat) (v : Int32) : ∀ (l : List Bool) (i : Nat), k < i → z_fl R (fun q => if q = k then v else x q) l i = z_fl R x l i
  | [], i, h => rfl
  | c :: l, i, h => by
    simp only [z_fl]
    rw [z_fl_out R x k v l (i + 1) (by omega), if_neg (show ¬ i = k by omega)]
theorem z_fl_set (R : Nat → Option Nat) (x : Nat → Int32) (v : Int32) : ∀ (l : List Bool) (i k : Nat), l[k]? = some false → z_fl R (fun q => if q = i + k then v else x q) l i = (z_fl R x l i).set k (.int v)
  | [], i, k, h => by simp at h
  | c :: l, i, 0, h => by
    simp only [List.getElem?_cons_zero, Option.some.injEq] at h
    subst h
    simp only [z_fl, Nat.add_zero, if_true, List.set_cons_zero]
    rw [z_fl_out R x i v l (i + 1) (by omega)]
    simp
  | c :: l, i, k + 1, h => by
    simp only [List.getElem?_cons_succ] at h
    have := z_fl_set R x v l (i + 1) k h
    simp only [z_fl, List.set_cons_succ]
    rw [show i + (k + 1) = i + 1 + k by omega, this, if_neg (show ¬ i = i + 1 + k by omega)]
def z_E (fl : Nat → List Bool) (ca : Nat → ClassId) (wd : zD) (ad : Nat → Nat) (M : zM) (i : Nat) : va_E :=
  if wd.1 i < 100 then .inr (wd.1 i, z_fl (fun k => (wd.2.1 i k).map ad) (M i) (fl (wd.1 i)) 0)
  else if wd.1 i = 100 then .inl (ca 100, wd.2.2 i, .inl (M i))
  else .inl (ca (wd.1 i), wd.2.2 i, .inr (.inr (.inr (.inr (fun k => (wd.2.1 i k).map ad)))))
def z_H (D : va_G) (cl : List vw_C) (fl : Nat → List Bool) (ca : Nat → ClassId) (wd : zD) (ad : Nat → Nat) (M : zM) (H : Heap) : Prop := ∀ i, wd.1 i < 200 → va_at D cl (ad i, z_E fl ca wd ad M i) H
def z_I (wd : zD) (ad : Nat → Nat) : Prop := ∀ i j, wd.1 i < 200 → wd.1 j < 200 → ad i = ad j → i = j
def z_A (wd : zD) (ad : Nat → Nat) : Nat → Prop := fun q => ∃ i, wd.1 i < 200 ∧ ad i = q
theorem z_A.in {wd : zD} {ad : Nat → Nat} {i : Nat} (h : wd.1 i < 200) : z_A wd ad (ad i) := ⟨i, h, rfl⟩
theorem z_E_o {fl : Nat → List Bool} {ca : Nat → ClassId} {wd : zD} {ad : Nat → Nat} {M : zM} {i ci : Nat} (hi : wd.1 i = ci) (hc : ci < 100) : z_E fl ca wd ad M i = .inr (ci, z_fl (fun k => (wd.2.1 i k).map ad) (M i) (fl ci) 0) := by
  unfold z_E
  rw [hi, if_pos hc]
theorem z_E_a {fl : Nat → List Bool} {ca : Nat → ClassId} {wd : zD} {ad : Nat → Nat} {M : zM} {i : Nat} (hi : wd.1 i = 100) : z_E fl ca wd ad M i = .inl (ca 100, wd.2.2 i, .inl (M i)) := by
  unfold z_E
  rw [hi, if_neg (by decide), if_pos rfl]
theorem z_E_q {fl : Nat → List Bool} {ca : Nat → ClassId} {wd : zD} {ad : Nat → Nat} {M : zM} {i c : Nat} (hi : wd.1 i = c) (hc : 100 < c) : z_E fl ca wd ad M i = .inl (ca c, wd.2.2 i, .inr (.inr (.inr (.inr (fun k => (wd.2.1 i k).map ad))))) := by
  unfold z_E
  rw [hi, if_neg (by omega), if_neg (by omega)]
theorem z_H.one {D : va_G} {cl : List vw_C} {fl : Nat → List Bool} {ca : Nat → ClassId} {wd : zD} {ad : Nat → Nat} {M : zM} {H : Heap} (h : z_H D cl fl ca wd ad M H) {i : Nat} (hv : wd.1 i < 200) : va_P D cl [(ad i, z_E fl ca wd ad M i)] H := by
  intro k q hk
  have hz : k < 1 := (List.getElem?_eq_some_iff.mp hk).1
  rw [show k = 0 by omega] at hk
  cases hk
  exact h i hv
/-- the values at the places that count decide -/
theorem z_H.congr {D : va_G} {cl : List vw_C} {fl : Nat → List Bool} {ca : Nat → ClassId} {wd : zD} {ad : Nat → Nat} {M M' : zM} {H : Heap} (h : z_H D cl fl ca wd ad M H) (hq : ∀ i, wd.1 i < 200 → z_E fl ca wd ad M i = z_E fl ca wd ad M' i) : z_H D cl fl ca wd ad M' H := fun i hv => by rw [← hq i hv]; exact h i hv
theorem z_H.kept {D : va_G} {cl : List vw_C} {fl : Nat → List Bool} {ca : Nat → ClassId} {wd : zD} {ad : Nat → Nat} {M : zM} {H H1 : Heap} (h : z_H D cl fl ca wd ad M H) (hq : ∀ i, wd.1 i < 200 → H1[ad i]? = H[ad i]?) : z_H D cl fl ca wd ad M H1 := fun i hv => (h i hv).kept (hq i hv)
theorem z_H.lt {D : va_G} {cl : List vw_C} {fl : Nat → List Bool} {ca : Nat → ClassId} {wd : zD} {ad : Nat → Nat} {M : zM} {H : Heap} (h : z_H D cl fl ca wd ad M H) {i : Nat} (hv : wd.1 i < 200) : ad i < H.size := (h i hv).lt
/-- behind a write of one int -/
theorem z_H.put {D : va_G} {cl : List vw_C} {fl : Nat → List Bool} {ca : Nat → ClassId} {wd : zD} {ad : Nat → Nat} {M : zM} {H H1 : Heap} (h : z_H D cl fl ca wd ad M H) (hI : z_I wd ad) {i k : Nat} {v : Int32} (hv : wd.1 i < 200) (he : va_at D cl (ad i, z_E fl ca wd ad (zu M i k v) i) H1) (oq : ∀ q : Nat, q ≠ ad i → H1[q]? = H[q]?) : z_H D cl fl ca wd ad (zu M i k v) H1 := by
  intro j hj
  by_cases hji : j = i
  · subst hji
    exact he
  · have h1 := (h j hj).kept (H1 := H1) (oq (ad j) (fun z => hji (hI j i hj hv z)))
    have h2 : z_E fl ca wd ad (zu M i k v) j = z_E fl ca wd ad M j := by
      have : zu M i k v j = M j := by funext q; exact zu_id M v hji
      unfold z_E
      rw [this]
    rw [h2]
    exact h1
section ZW
variable {p : Program} {l : Launch} {e : Env} {R : Room} {s : State} {m : MethodId} {args : Array Value} {below : List Frame} {meth : Method} {c : Code} {H : Heap} {locs : List Loc} {cells slots : Nat} {Q : State → Prop}
variable {cc : ByteArray} {pc : Nat} {ls : Array Slot} {rest : List Value} {D : va_G} {cl : List vw_C} {A : Nat → Prop} {tys : List (ClassId × FieldType)} {H0 : Heap}
variable {fl : Nat → List Bool} {ca : Nat → ClassId} {wd : zD} {ad : Nat → Nat} {M : zM}
theorem z_gi (hexec : p.tables.exec = Jvm.exec) (hb : c.code = cc) {own ref C : String} {T : u_T} {N ci index i k : Nat} {Ts : List Cond} (hts : ∀ w ∈ Ts, w.before args s = true) (hin : ∀ w ∈ u_ws C T N, w ∈ Ts) (hown : s.vm.findClass own = some m.cls) (hK : va_K D cl tys s) (hH : z_H D cl fl ca wd ad M H) (hi : wd.1 i = ci) (hci : ci < 100) (hc : cl[ci]? = some (C, T, N)) (hk : k < N) (hf : (fl ci)[k]? = some false) (hlink : (Cond.fieldLink own index ref (T k).2.1 (T k).2.2.1).before args s = true) (hsame : ∀ x, s.fieldFound? (T k).1 (T k).2.1 (T k).2.2.1 = some x → s.fieldFound? ref (T k).2.1 (T k).2.2.1 = some x) (hdg : decode cc pc = .ok (.getfield index, 3))
    (kk : W p l e R s m args below meth c H locs cells slots Q (F0 m (pc + 3) ls (.int (M i k) :: rest))) : W p l e R s m args below meth c H locs cells slots Q (F0 m pc ls (.ref (ad i) :: rest)) := by
  have hP := hH.one (i := i) (by omega)
  rw [z_E_o hi hci] at hP
  refine va_get hexec hb hts hin hown hK hP 0 rfl hc k hk hlink hsame (v := .int (M i k)) ?_ hdg kk
  have := z_fl_get (fun k => (wd.2.1 i k).map ad) (M i) (fl ci) 0 k false hf
  simpa using this
theorem z_gr (hexec : p.tables.exec = Jvm.exec) (hb : c.code = cc) {own ref C : String} {T : u_T} {N ci index i j k : Nat} {Ts : List Cond} (hts : ∀ w ∈ Ts, w.before args s = true) (hin : ∀ w ∈ u_ws C T N, w ∈ Ts) (hown : s.vm.findClass own = some m.cls) (hK : va_K D cl tys s) (hH : z_H D cl fl ca wd ad M H) (hi : wd.1 i = ci) (hci : ci < 100) (hc : cl[ci]? = some (C, T, N)) (hk : k < N) (hf : (fl ci)[k]? = some true) (hj : wd.2.1 i k = some j) (hlink : (Cond.fieldLink own index ref (T k).2.1 (T k).2.2.1).before args s = true) (hsame : ∀ x, s.fieldFound? (T k).1 (T k).2.1 (T k).2.2.1 = some x → s.fieldFound? ref (T k).2.1 (T k).2.2.1 = some x) (hdg : decode cc pc = .ok (.getfield index, 3))
    (kk : W p l e R s m args below meth c H locs cells slots Q (F0 m (pc + 3) ls (.ref (ad j) :: rest))) : W p l e R s m args below meth c H locs cells slots Q (F0 m pc ls (.ref (ad i) :: rest)) := by
  have hP := hH.one (i := i) (by omega)
  rw [z_E_o hi hci] at hP
  refine va_get hexec hb hts hin hown hK hP 0 rfl hc k hk hlink hsame (v := .ref (ad j)) ?_ hdg kk
  have := z_fl_get (fun k => (wd.2.1 i k).map ad) (M i) (fl ci) 0 k true hf
  simpa [hj, va_rf] using this
theorem z_giN (hexec : p.tables.exec = Jvm.exec) (hb : c.code = cc) {own ref C host : String} {T : u_T} {N ci index i k : Nat} {Ts : List Cond} (hts : ∀ w ∈ Ts, w.before args s = true) (hin : ∀ w ∈ u_ws C T N, w ∈ Ts) (hown : s.vm.findClass own = some m.cls) (hK : va_K D cl tys s) (hH : z_H D cl fl ca wd ad M H) (hi : wd.1 i = ci) (hci : ci < 100) (hc : cl[ci]? = some (C, T, N)) (hk : k < N) (hf : (fl ci)[k]? = some false) (hlink : va_Nw (Cond.fieldLinkNest own index ref (T k).2.1 (T k).2.2.1 host) s) (hsame : ∀ x, s.fieldFound? (T k).1 (T k).2.1 (T k).2.2.1 = some x → s.fieldFound? ref (T k).2.1 (T k).2.2.1 = some x) (hdg : decode cc pc = .ok (.getfield index, 3))
    (kk : W p l e R s m args below meth c H locs cells slots Q (F0 m (pc + 3) ls (.int (M i k) :: rest))) : W p l e R s m args below meth c H locs cells slots Q (F0 m pc ls (.ref (ad i) :: rest)) := by
  have hP := hH.one (i := i) (by omega)
  rw [z_E_o hi hci] at hP
  refine va_getN hexec hb hts hin hown hK hP 0 rfl hc k hk (va_Nw.use rfl hlink) hsame (v := .int (M i k)) ?_ hdg kk
  have := z_fl_get (fun k => (wd.2.1 i k).map ad) (M i) (fl ci) 0 k false hf
  simpa using this
theorem z_grN (hexec : p.tables.exec = Jvm.exec) (hb : c.code = cc) {own ref C host : String} {T : u_T} {N ci index i j k : Nat} {Ts : List Cond} (hts : ∀ w ∈ Ts, w.before args s = true) (hin : ∀ w ∈ u_ws C T N, w ∈ Ts) (hown : s.vm.findClass own = some m.cls) (hK : va_K D cl tys s) (hH : z_H D cl fl ca wd ad M H) (hi : wd.1 i = ci) (hci : ci < 100) (hc : cl[ci]? = some (C, T, N)) (hk : k < N) (hf : (fl ci)[k]? = some true) (hj : wd.2.1 i k = some j) (hlink : va_Nw (Cond.fieldLinkNest own index ref (T k).2.1 (T k).2.2.1 host) s) (hsame : ∀ x, s.fieldFound? (T k).1 (T k).2.1 (T k).2.2.1 = some x → s.fieldFound? ref (T k).2.1 (T k).2.2.1 = some x) (hdg : decode cc pc = .ok (.getfield index, 3))
    (kk : W p l e R s m args below meth c H locs cells slots Q (F0 m (pc + 3) ls (.ref (ad j) :: rest))) : W p l e R s m args below meth c H locs cells slots Q (F0 m pc ls (.ref (ad i) :: rest)) := by
  have hP := hH.one (i := i) (by omega)
  rw [z_E_o hi hci] at hP
  refine va_getN hexec hb hts hin hown hK hP 0 rfl hc k hk (va_Nw.use rfl hlink) hsame (v := .ref (ad j)) ?_ hdg kk
  have := z_fl_get (fun k => (wd.2.1 i k).map ad) (M i) (fl ci) 0 k true hf
  simpa [hj, va_rf] using this
theorem z_put_at {C : String} {T : u_T} {N ci i k : Nat} {cell : Cell} {v : Int32} {H' : Heap} (hc : cl[ci]? = some (C, T, N)) (hi : wd.1 i = ci) (hci : ci < 100) (hk : k < N) (hf : (fl ci)[k]? = some false) (hap : ∀ x y, x < N → y < N → x ≠ y → (D.2 ci) x ≠ (D.2 ci) y) (q2 : cell.cls = D.1 ci) (q3 : cell.vm = .none) (q4 : ∀ q, q < N → cell.slots[D.2 ci q]? = some (vp_V (z_fl (fun k => (wd.2.1 i k).map ad) (M i) (fl ci) 0) q)) (e1 : H'[ad i]? = some (cell.setSlot (D.2 ci k) (.int v))) : va_at D cl (ad i, z_E fl ca wd ad (zu M i k v) i) H' := by
  rw [z_E_o hi hci]
  have h1 : zu M i k v i = fun q => if q = 0 + k then v else M i q := by
    funext q
    simp [zu]
  rw [h1, z_fl_set _ _ _ _ _ _ hf]
  have hl : k < (z_fl (fun k => (wd.2.1 i k).map ad) (M i) (fl ci) 0).length := by
    rw [z_fl_len]
    exact (List.getElem?_eq_some_iff.mp hf).1
  exact ⟨_, hc, t_OB.to (V := updV (vp_V (z_fl (fun k => (wd.2.1 i k).map ad) (M i) (fl ci) 0)) k (.int v)) ⟨_, e1, q2, q3, t_set q4 hap hk (.int v)⟩ (fun j _ => vp_updV_set hl (.int v) j)⟩
theorem z_pi (hexec : p.tables.exec = Jvm.exec) (hb : c.code = cc) {own ref C : String} {T : u_T} {N ci index i k : Nat} {Ts : List Cond} (hts : ∀ w ∈ Ts, w.before args s = true) (hin : ∀ w ∈ u_ws C T N, w ∈ Ts) (ty0 : Nat → FieldType) (hty : ∀ k, k < N → parseFieldDescriptor (T k).2.2.1 = some (ty0 k)) (hnm : ∀ a, a < N → ∀ b, b < N → a ≠ b → (T a).2.1 ≠ (T b).2.1) (hown : s.vm.findClass own = some m.cls) (hK : va_K D cl tys s) (hH : z_H D cl fl ca wd ad M H) (hI : z_I wd ad) (hS0 : va_S A H0 H locs) (hA : ∀ q, z_A wd ad q → A q) (hi : wd.1 i = ci) (hci : ci < 100) (hc : cl[ci]? = some (C, T, N)) (hk : k < N) (hf : (fl ci)[k]? = some false) (hlink : (Cond.fieldLink own index ref (T k).2.1 (T k).2.2.1).before args s = true) (hsame : ∀ x, s.fieldFound? (T k).1 (T k).2.1 (T k).2.2.1 = some x → s.fieldFound? ref (T k).2.1 (T k).2.2.1 = some x) (hfin : (T k).2.2.2 = false) {ty : FieldType} {v : Int32} (hd : parseFieldDescriptor (T k).2.2.1 = some ty) (hn : narrow ty (.int v) = .int v) (hfit : fits ty (.int v) = true)
    (hdg : decode cc pc = .ok (.putfield index, 3)) (kk : ∀ (H1 : Heap) (locs1 : List Loc), z_H D cl fl ca wd ad (zu M i k v) H1 → va_S A H0 H1 locs1 → W p l e R s m args below meth c H1 locs1 cells slots Q (F0 m (pc + 3) ls rest)) : W p l e R s m args below meth c H locs cells slots Q (F0 m pc ls (.int v :: .ref (ad i) :: rest)) := by
  have hap := va_apart (own := own) hts hin ty0 hty hnm hK hc
  have hv : wd.1 i < 200 := by omega
  have h0 := hH i hv
  rw [z_E_o hi hci] at h0
  obtain ⟨r, h1, cell, q1, q2, q3, q4⟩ := h0
  have hr : r = (C, T, N) := Option.some.inj (h1.symm.trans hc)
  subst hr
  obtain ⟨hS, hfc, kC, hkC, hkind⟩ := hK.1 ci _ hc
  obtain ⟨cf, kf, fi, f, hi', hsl⟩ := hS k hk
  have hlay := hts _ (hin _ (u_in_lay hk))
  unfold u_lay at hlay
  rw [if_neg (by rw [hfin]; decide)] at hlay
  have hst := (u_facts hfc hkC (u_lays hts hin hk) hi').1
  have h6 := u_store hfc hkC hkind hlay hi' hd hn hfit
  refine W.putK hexec hb (f := f) ⟨hown, hlink, ⟨_, _, _, hsame _ hi'⟩, hst⟩ (by rw [q2]; exact h6) q1 q3 (by rw [hsl]; exact k2_hasslot (q4 k hk)) rfl rfl hdg fun H' e1 e2 e3 => ?_
  rw [hsl] at e1 ⊢
  exact kk H' _ (hH.put hI hv (z_put_at hc hi hci hk hf hap q2 q3 q4 e1) e3) (hS0.put e2 e3 (hA _ (z_A.in hv)))
theorem z_piN (hexec : p.tables.exec = Jvm.exec) (hb : c.code = cc) {own ref C host : String} {T : u_T} {N ci index i k : Nat} {Ts : List Cond} (hts : ∀ w ∈ Ts, w.before args s = true) (hin : ∀ w ∈ u_ws C T N, w ∈ Ts) (ty0 : Nat → FieldType) (hty : ∀ k, k < N → parseFieldDescriptor (T k).2.2.1 = some (ty0 k)) (hnm : ∀ a, a < N → ∀ b, b < N → a ≠ b → (T a).2.1 ≠ (T b).2.1) (hown : s.vm.findClass own = some m.cls) (hK : va_K D cl tys s) (hH : z_H D cl fl ca wd ad M H) (hI : z_I wd ad) (hS0 : va_S A H0 H locs) (hA : ∀ q, z_A wd ad q → A q) (hi : wd.1 i = ci) (hci : ci < 100) (hc : cl[ci]? = some (C, T, N)) (hk : k < N) (hf : (fl ci)[k]? = some false) (hlink : va_Nw (Cond.fieldLinkNest own index ref (T k).2.1 (T k).2.2.1 host) s) (hsame : ∀ x, s.fieldFound? (T k).1 (T k).2.1 (T k).2.2.1 = some x → s.fieldFound? ref (T k).2.1 (T k).2.2.1 = some x) (hfin : (T k).2.2.2 = false) {ty : FieldType} {v : Int32} (hd : parseFieldDescriptor (T k).2.2.1 = some ty) (hn : narrow ty (.int v) = .int v) (hfit : fits ty (.int v) = true)
    (hdg : decode cc pc = .ok (.putfield index, 3)) (kk : ∀ (H1 : Heap) (locs1 : List Loc), z_H D cl fl ca wd ad (zu M i k v) H1 → va_S A H0 H1 locs1 → W p l e R s m args below meth c H1 locs1 cells slots Q (F0 m (pc + 3) ls rest)) : W p l e R s m args below meth c H locs cells slots Q (F0 m pc ls (.int v :: .ref (ad i) :: rest)) := by
  have hap := va_apart (own := own) hts hin ty0 hty hnm hK hc
  have hv : wd.1 i < 200 := by omega
  have h0 := hH i hv
  rw [z_E_o hi hci] at h0
  obtain ⟨r, h1, cell, q1, q2, q3, q4⟩ := h0
  have hr : r = (C, T, N) := Option.some.inj (h1.symm.trans hc)
  subst hr
  obtain ⟨hS, hfc, kC, hkC, hkind⟩ := hK.1 ci _ hc
  obtain ⟨cf, kf, fi, f, hi', hsl⟩ := hS k hk
  have hlay := hts _ (hin _ (u_in_lay hk))
  unfold u_lay at hlay
  rw [if_neg (by rw [hfin]; decide)] at hlay
  have hst := (u_facts hfc hkC (u_lays hts hin hk) hi').1
  have h6 := u_store hfc hkC hkind hlay hi' hd hn hfit
  refine va_WputK hexec hb (f := f) hown (va_Nw.use rfl hlink) (hsame _ hi') hst (by rw [q2]; exact h6) q1 q3 (by rw [hsl]; exact k2_hasslot (q4 k hk)) rfl rfl hdg fun H' e1 e2 e3 => ?_
  rw [hsl] at e1 ⊢
  exact kk H' _ (hH.put hI hv (z_put_at hc hi hci hk hf hap q2 q3 q4 e1) e3) (hS0.put e2 e3 (hA _ (z_A.in hv)))
/-- an int out of an array -/
theorem z_al (hexec : p.tables.exec = Jvm.exec) (hb : c.code = cc) (hK : va_K D cl tys s) (hH : z_H D cl fl ca wd ad M H) {i t0 : Nat} (hi : wd.1 i = 100) (ht : tys[t0]? = some (ca 100, .int)) {x : Int32} (hin : vp_in x (wd.2.2 i)) (hdg : decode cc pc = .ok (.iaload, 1))
    (kk : W p l e R s m args below meth c H locs cells slots Q (F0 m (pc + 1) ls (.int (M i x.toNatClampNeg) :: rest))) : W p l e R s m args below meth c H locs cells slots Q (F0 m pc ls (.int x :: .ref (ad i) :: rest)) := by
  have hP := hH.one (i := i) (by omega)
  rw [z_E_a hi] at hP
  exact va_iald hexec hb hK hP 0 t0 rfl ht hin hdg kk
theorem z_as (hexec : p.tables.exec = Jvm.exec) (hb : c.code = cc) (hK : va_K D cl tys s) (hH : z_H D cl fl ca wd ad M H) (hI : z_I wd ad) (hS : va_S A H0 H locs) (hA : ∀ q, z_A wd ad q → A q) {i t0 : Nat} (hi : wd.1 i = 100) (ht : tys[t0]? = some (ca 100, .int)) {x v : Int32} (hin : vp_in x (wd.2.2 i)) (hdg : decode cc pc = .ok (.iastore, 1))
    (kk : ∀ (H1 : Heap) (locs1 : List Loc), z_H D cl fl ca wd ad (zu M i x.toNatClampNeg v) H1 → va_S A H0 H1 locs1 → W p l e R s m args below meth c H1 locs1 cells slots Q (F0 m (pc + 1) ls rest)) : W p l e R s m args below meth c H locs cells slots Q (F0 m pc ls (.int v :: .int x :: .ref (ad i) :: rest)) := by
  have hv : wd.1 i < 200 := by omega
  have h0 := hH i hv
  rw [z_E_a hi] at h0
  refine W.iast hexec hb h0 ((hK.2 t0 _ ht).1 (wd.2.2 i) (fun j => .int (M i j))) (fun q => by cases q) (by show ¬ (x < 0 ∨ (arrV _ _ _).slots.size ≤ _); rw [arrV_size]; exact hin) rfl rfl hdg fun H1 e z oq => ?_
  refine kk H1 _ (hH.put hI hv ?_ oq) (hS.put z oq (hA _ (z_A.in hv)))
  rw [z_E_a hi]
  show H1[ad i]? = some (vp_cell _ _)
  rw [e]
  rw [vp_cell_i, vp_cell_i, arrV_store]
  congr 2
  funext q
  by_cases hq : q = x.toNatClampNeg
  · subst hq
    simp [updV, zu]
  · simp [updV, zu, hq]
/-- a reference out of an array -/
theorem z_aq (hexec : p.tables.exec = Jvm.exec) (hb : c.code = cc) (hK : va_K D cl tys s) (hH : z_H D cl fl ca wd ad M H) {i j t0 k : Nat} {C : String} (hi : wd.1 i = k) (hk : 100 < k) (hk2 : k < 200) (ht : tys[t0]? = some (ca k, .object C)) {x : Int32} (hin : vp_in x (wd.2.2 i)) (hj : wd.2.1 i x.toNatClampNeg = some j) (hdg : decode cc pc = .ok (.aaload, 1))
    (kk : W p l e R s m args below meth c H locs cells slots Q (F0 m (pc + 1) ls (.ref (ad j) :: rest))) : W p l e R s m args below meth c H locs cells slots Q (F0 m pc ls (.int x :: .ref (ad i) :: rest)) := by
  have hP := hH.one (i := i) (by omega)
  rw [z_E_q hi hk] at hP
  refine va_aldq hexec hb hK hP 0 t0 rfl ht hin hdg ?_
  simpa [hj, va_rf] using kk
/-- the receiver of a call -/
theorem z_recv {ci i : Nat} {q : vw_C} (hK : va_K D cl tys s) (hH : z_H D cl fl ca wd ad M H) (hi : wd.1 i = ci) (hci : ci < 100) (hc : cl[ci]? = some q) : ∃ cell : Cell, H[ad i]? = some cell ∧ cell.vm.isStatics = false ∧ s.vm.findClass q.1 = some cell.cls := by
  have hP := hH.one (i := i) (by omega)
  rw [z_E_o hi hci] at hP
  exact va_recv hK hP hc (q0 := 0) rfl
end ZW
/-! ===== contracts over such worlds ===== -/
/-- the tables' facts that a contract hands on: what is known of classes, and words on nest mates -/
def z_N (nw : List Cond) (U : State) : Prop := ∀ w ∈ nw, va_Nw w U
def z_nest : Cond → Bool
  | .fieldLinkNest _ _ _ _ _ _ => true
  | .methodLinkNest _ _ _ _ => true
  | _ => false
theorem z_N.warm {nw : List Cond} (hn : nw.all z_nest = true) {s U : State} (hW : s.WarmedH U.vm) (h : z_N nw s) : z_N nw U := by
  intro w hw
  have h1 := List.all_eq_true.mp hn w hw
  have h2 := h w hw
  cases w <;> first | exact va_Nw.warmF hW h2 | exact va_Nw.warmM hW h2 | exact absurd h1 (by simp [z_nest])
theorem z_nest_tab {w : Cond} (h : z_nest w = true) : w.onTables = true := by
  cases w <;> first | rfl | exact absurd h (by simp [z_nest])
theorem z_N.same {nw : List Cond} (hn : nw.all z_nest = true) {s U : State} (hv : s.vm = U.vm) (h : z_N nw s) : z_N nw U := fun w hw => va_Nw.same (z_nest_tab (List.all_eq_true.mp hn w hw)) hv (h w hw)
abbrev z_Pc (D : va_G) (cl : List vw_C) (tys : List (ClassId × FieldType)) (nw : List Cond) (av : List Value) (B : Heap → Prop) : Array Value → State → Prop := va_Pc av (fun U => B U.heap ∧ va_K D cl tys U ∧ z_N nw U)
abbrev z_Qi (v : Int32) (B : Heap → Prop) (A : Nat → Prop) : Array Value → State → Outcome → State → Prop := va_Qi (fun (r : Int32) (_ : Unit) => r = v) (fun _ t => B t.heap) A
abbrev z_Ql (v : Int64) (B : Heap → Prop) (A : Nat → Prop) : Array Value → State → Outcome → State → Prop := va_Ql (fun (r : Int64) (_ : Unit) => r = v) (fun _ t => B t.heap) A
abbrev z_Qv (B : Heap → Prop) (A : Nat → Prop) : Array Value → State → Outcome → State → Prop := va_Qv (fun (_ : Unit) => True) (fun _ t => B t.heap) A
theorem z_blind {D : va_G} {cl : List vw_C} {tys : List (ClassId × FieldType)} {nw : List Cond} (hn : nw.all z_nest = true) {av : List Value} {B : Heap → Prop} : FrameBlind (z_Pc D cl tys nw av B) := fun a U g mk q => by
  obtain ⟨q0, qB, qK, qN⟩ := q
  exact ⟨q0, qB, va_K.moved (u := U) (U := U.calling g mk a) (Vm.Alike.refl U.vm) qK, z_N.same (s := U) (U := U.calling g mk a) hn rfl qN⟩
section ZC
variable {p : Program} {l : Launch} {e : Env} {R : Room} {s : State} {m : MethodId} {args : Array Value} {below : List Frame} {meth : Method} {c : Code} {H : Heap} {locs : List Loc} {cells slots : Nat} {Q : State → Prop}
variable {cc : ByteArray} {pc nL : Nat} {ls : Array Slot} {rest st0 : List Value} {D : va_G} {cl : List vw_C} {A0 A1 : Nat → Prop} {tys : List (ClassId × FieldType)} {H0 : Heap} {nw : List Cond}
variable {y : MethodName} {bytes : ByteArray} {maxL n index : Nat} {ret : Option FieldType} {ws Ts : List Cond} {rm : Room} {own C host : String} {b : Addr} {As : List Value} {B B' : Heap → Prop}
theorem z_room {st : List Value} {pc : Nat} {ls : Array Slot} {rest : List Value} (h : (st.map fun v => v.category).sum ≤ 8) : 2 * (F0 m pc ls rest).monitorRoom + (st.map fun v => v.category).sum ≤ 8 := lv_room h
theorem z_cVi {v : Int32} (S : CallFix p m c cc nL s args Ts own) (hM : Met l y ws rm (z_Pc D cl tys nw (.ref b :: As) B) (z_Qi v B' A1) 0 0 A1) (cw : CallW R s args own C index y bytes maxL ret ws rm 0 0 n)
    (hrec : ∃ cell : Cell, H[b]? = some cell ∧ cell.vm.isStatics = false ∧ s.vm.findClass C = some cell.cls) (hB : B H) (hK : va_K D cl tys s) (hN : z_N nw s) (hnw : nw.all z_nest = true) (hn : As.length = n) (hsize : ls.size = nL) (hst : st0 = As.reverse ++ .ref b :: rest) (hW : (rest.map fun v => v.category).sum ≤ 8) (hdg : decode cc pc = .ok (.invokevirtual index, 3)) (hf : cells ≤ R.cells ∧ slots ≤ R.slots) (hS : va_S A0 H0 H locs) (hA : ∀ q, A1 q → A0 q)
    (kk : ∀ (H1 : Heap) (locs1 : List Loc), B' H1 → (∀ q : Nat, q < H.size → ¬ A1 q → H1[q]? = H[q]?) → H.size ≤ H1.size → va_S A0 H0 H1 locs1 → W p l e R s m args below meth c H1 locs1 cells slots Q (F0 m (pc + 3) ls (.int v :: rest))) : W p l e R s m args below meth c H locs cells slots Q (F0 m pc ls st0) := by
  refine va_calli (va_runV S hM cw ⟨z_blind hnw, hrec, fun U hU hW => ⟨rfl, by rw [hU]; exact hB, va_K.moved hW.alike hK, hN.warm hnw hW⟩⟩ rfl hn hsize hst (lv_room hW) hdg hf) hS (fun q _ h => hA q h) hA (fun r u t H1 locs1 ht hvm hw hB1 hz1 hk1 hS1 => ?_)
  subst hw
  rw [ht] at hB1
  exact kk H1 locs1 hB1 hk1 hz1 hS1
theorem z_cVv (S : CallFix p m c cc nL s args Ts own) (hM : Met l y ws rm (z_Pc D cl tys nw (.ref b :: As) B) (z_Qv B' A1) 0 0 A1) (cw : CallW R s args own C index y bytes maxL ret ws rm 0 0 n)
    (hrec : ∃ cell : Cell, H[b]? = some cell ∧ cell.vm.isStatics = false ∧ s.vm.findClass C = some cell.cls) (hB : B H) (hK : va_K D cl tys s) (hN : z_N nw s) (hnw : nw.all z_nest = true) (hn : As.length = n) (hsize : ls.size = nL) (hst : st0 = As.reverse ++ .ref b :: rest) (hW : (rest.map fun v => v.category).sum ≤ 8) (hdg : decode cc pc = .ok (.invokevirtual index, 3)) (hf : cells ≤ R.cells ∧ slots ≤ R.slots) (hS : va_S A0 H0 H locs) (hA : ∀ q, A1 q → A0 q)
    (kk : ∀ (H1 : Heap) (locs1 : List Loc), B' H1 → (∀ q : Nat, q < H.size → ¬ A1 q → H1[q]? = H[q]?) → H.size ≤ H1.size → va_S A0 H0 H1 locs1 → W p l e R s m args below meth c H1 locs1 cells slots Q (F0 m (pc + 3) ls rest)) : W p l e R s m args below meth c H locs cells slots Q (F0 m pc ls st0) := by
  refine va_callv (va_runV S hM cw ⟨z_blind hnw, hrec, fun U hU hW => ⟨rfl, by rw [hU]; exact hB, va_K.moved hW.alike hK, hN.warm hnw hW⟩⟩ rfl hn hsize hst (lv_room hW) hdg hf) hS (fun q _ h => hA q h) hA (fun u t H1 locs1 ht hvm hw hB1 hz1 hk1 hS1 => ?_)
  rw [ht] at hB1
  exact kk H1 locs1 hB1 hk1 hz1 hS1
theorem z_cNi {v : Int32} (S : CallFix p m c cc nL s args Ts own) (hM : Met l y ws rm (z_Pc D cl tys nw (.ref b :: As) B) (z_Qi v B' A1) 0 0 A1) (cw : va_CN R s args own index y host bytes maxL ret ws rm 0 0 n ∧ (Cond.instanceMethod y).before args s = true ∧ (Cond.selects C y y).before args s = true)
    (hrec : ∃ cell : Cell, H[b]? = some cell ∧ cell.vm.isStatics = false ∧ s.vm.findClass C = some cell.cls) (hB : B H) (hK : va_K D cl tys s) (hN : z_N nw s) (hnw : nw.all z_nest = true) (hn : As.length = n) (hsize : ls.size = nL) (hst : st0 = As.reverse ++ .ref b :: rest) (hW : (rest.map fun v => v.category).sum ≤ 8) (hdg : decode cc pc = .ok (.invokevirtual index, 3)) (hf : cells ≤ R.cells ∧ slots ≤ R.slots) (hS : va_S A0 H0 H locs) (hA : ∀ q, A1 q → A0 q)
    (kk : ∀ (H1 : Heap) (locs1 : List Loc), B' H1 → (∀ q : Nat, q < H.size → ¬ A1 q → H1[q]? = H[q]?) → H.size ≤ H1.size → va_S A0 H0 H1 locs1 → W p l e R s m args below meth c H1 locs1 cells slots Q (F0 m (pc + 3) ls (.int v :: rest))) : W p l e R s m args below meth c H locs cells slots Q (F0 m pc ls st0) := by
  refine va_calli (va_runVN S hM cw ⟨z_blind hnw, hrec, fun U hU hW => ⟨rfl, by rw [hU]; exact hB, va_K.moved hW.alike hK, hN.warm hnw hW⟩⟩ rfl hn hsize hst (lv_room hW) hdg hf) hS (fun q _ h => hA q h) hA (fun r u t H1 locs1 ht hvm hw hB1 hz1 hk1 hS1 => ?_)
  subst hw
  rw [ht] at hB1
  exact kk H1 locs1 hB1 hk1 hz1 hS1
theorem z_cNv (S : CallFix p m c cc nL s args Ts own) (hM : Met l y ws rm (z_Pc D cl tys nw (.ref b :: As) B) (z_Qv B' A1) 0 0 A1) (cw : va_CN R s args own index y host bytes maxL ret ws rm 0 0 n ∧ (Cond.instanceMethod y).before args s = true ∧ (Cond.selects C y y).before args s = true)
    (hrec : ∃ cell : Cell, H[b]? = some cell ∧ cell.vm.isStatics = false ∧ s.vm.findClass C = some cell.cls) (hB : B H) (hK : va_K D cl tys s) (hN : z_N nw s) (hnw : nw.all z_nest = true) (hn : As.length = n) (hsize : ls.size = nL) (hst : st0 = As.reverse ++ .ref b :: rest) (hW : (rest.map fun v => v.category).sum ≤ 8) (hdg : decode cc pc = .ok (.invokevirtual index, 3)) (hf : cells ≤ R.cells ∧ slots ≤ R.slots) (hS : va_S A0 H0 H locs) (hA : ∀ q, A1 q → A0 q)
    (kk : ∀ (H1 : Heap) (locs1 : List Loc), B' H1 → (∀ q : Nat, q < H.size → ¬ A1 q → H1[q]? = H[q]?) → H.size ≤ H1.size → va_S A0 H0 H1 locs1 → W p l e R s m args below meth c H1 locs1 cells slots Q (F0 m (pc + 3) ls rest)) : W p l e R s m args below meth c H locs cells slots Q (F0 m pc ls st0) := by
  refine va_callv (va_runVN S hM cw ⟨z_blind hnw, hrec, fun U hU hW => ⟨rfl, by rw [hU]; exact hB, va_K.moved hW.alike hK, hN.warm hnw hW⟩⟩ rfl hn hsize hst (lv_room hW) hdg hf) hS (fun q _ h => hA q h) hA (fun u t H1 locs1 ht hvm hw hB1 hz1 hk1 hS1 => ?_)
  rw [ht] at hB1
  exact kk H1 locs1 hB1 hk1 hz1 hS1
theorem z_cSi {v : Int32} (S : CallFix p m c cc nL s args Ts own) (hM : Met l y ws rm (z_Pc D cl tys nw As B) (z_Qi v B' A1) 0 0 A1) (cw : CallB R s args own index y bytes maxL ret ws rm 0 0 n ∧ (Cond.static y).before args s = true)
    (hB : B H) (hK : va_K D cl tys s) (hN : z_N nw s) (hnw : nw.all z_nest = true) (hn : As.length = n) (hsize : ls.size = nL) (hst : st0 = As.reverse ++ rest) (hW : (rest.map fun v => v.category).sum ≤ 8) (hdg : decode cc pc = .ok (.invokestatic index, 3)) (hf : cells ≤ R.cells ∧ slots ≤ R.slots) (hS : va_S A0 H0 H locs) (hA : ∀ q, A1 q → A0 q)
    (kk : ∀ (H1 : Heap) (locs1 : List Loc), B' H1 → (∀ q : Nat, q < H.size → ¬ A1 q → H1[q]? = H[q]?) → H.size ≤ H1.size → va_S A0 H0 H1 locs1 → W p l e R s m args below meth c H1 locs1 cells slots Q (F0 m (pc + 3) ls (.int v :: rest))) : W p l e R s m args below meth c H locs cells slots Q (F0 m pc ls st0) := by
  refine va_calli (va_runS S hM cw ⟨z_blind hnw, fun U hU hW => ⟨rfl, by rw [hU]; exact hB, va_K.moved hW.alike hK, hN.warm hnw hW⟩⟩ rfl hn hsize hst (lv_room hW) hdg hf) hS (fun q _ h => hA q h) hA (fun r u t H1 locs1 ht hvm hw hB1 hz1 hk1 hS1 => ?_)
  subst hw
  rw [ht] at hB1
  exact kk H1 locs1 hB1 hk1 hz1 hS1
theorem z_cSv (S : CallFix p m c cc nL s args Ts own) (hM : Met l y ws rm (z_Pc D cl tys nw As B) (z_Qv B' A1) 0 0 A1) (cw : CallB R s args own index y bytes maxL ret ws rm 0 0 n ∧ (Cond.static y).before args s = true)
    (hB : B H) (hK : va_K D cl tys s) (hN : z_N nw s) (hnw : nw.all z_nest = true) (hn : As.length = n) (hsize : ls.size = nL) (hst : st0 = As.reverse ++ rest) (hW : (rest.map fun v => v.category).sum ≤ 8) (hdg : decode cc pc = .ok (.invokestatic index, 3)) (hf : cells ≤ R.cells ∧ slots ≤ R.slots) (hS : va_S A0 H0 H locs) (hA : ∀ q, A1 q → A0 q)
    (kk : ∀ (H1 : Heap) (locs1 : List Loc), B' H1 → (∀ q : Nat, q < H.size → ¬ A1 q → H1[q]? = H[q]?) → H.size ≤ H1.size → va_S A0 H0 H1 locs1 → W p l e R s m args below meth c H1 locs1 cells slots Q (F0 m (pc + 3) ls rest)) : W p l e R s m args below meth c H locs cells slots Q (F0 m pc ls st0) := by
  refine va_callv (va_runS S hM cw ⟨z_blind hnw, fun U hU hW => ⟨rfl, by rw [hU]; exact hB, va_K.moved hW.alike hK, hN.warm hnw hW⟩⟩ rfl hn hsize hst (lv_room hW) hdg hf) hS (fun q _ h => hA q h) hA (fun u t H1 locs1 ht hvm hw hB1 hz1 hk1 hS1 => ?_)
  rw [ht] at hB1
  exact kk H1 locs1 hB1 hk1 hz1 hS1
end ZC
end
section
/-! ===== a row of arrays can be made (the word that the printed row va_mna names) ===== -/
def va_AOA (t : FieldType) (U : State) : Prop := (Cond.arrayOver (.array t)).before #[] U = true
theorem va_AOA.of {t : FieldType} {A : Array Value} {U : State} (h : (Cond.arrayOver (.array t)).before A U = true) : va_AOA t U := h
theorem va_AOA.use {t : FieldType} {A : Array Value} {U : State} (h : va_AOA t U) : (Cond.arrayOver (.array t)).before A U = true := h
theorem va_AOA.moved {t : FieldType} {u U : State} (hvm : u.vm.Alike U.vm) (h : va_AOA t u) : va_AOA t U := by
  unfold va_AOA Cond.before Cond.holds at h
  simp only [Cond.value, beq_iff_eq] at h
  cases hc : u.vm.findClass (FieldType.array t).toString with
  | none => simp [hc] at h
  | some comp =>
    simp only [hc, Option.bind_some, Option.bind_eq_some_iff, Option.map_eq_some_iff] at h
    obtain ⟨c, hi, k, hk, hb⟩ := h
    obtain ⟨k', hk', he⟩ := hvm.2.2 _ _ hk
    have hi0 : (u.vm.classes.findIdx? fun (x : Class) => match x.kind with | .array component _ => component == comp | _ => false) = some c := hi
    have hi1 : (U.vm.classes.findIdx? fun (x : Class) => match x.kind with | .array component _ => component == comp | _ => false) = some c := by
      refine Eq.trans ?_ hi0
      refine (va_idx_bare U.vm comp).symm.trans (Eq.trans ?_ (va_idx_bare u.vm comp))
      first | rw [hvm.bare_eq] | rw [← hvm.bare_eq]
    have e1 : U.vm.findClass (FieldType.array t).toString = some comp := by rw [hvm.findClass]; exact hc
    have e2 : U.vm.findClass ("[" ++ (FieldType.array t).toString) = u.vm.findClass ("[" ++ (FieldType.array t).toString) := by rw [hvm.findClass]
    unfold va_AOA Cond.before Cond.holds
    simp only [Cond.value]
    rw [e1, Option.bind_some]
    refine (congrArg (fun o : Option Nat => (o.bind (fun c => (U.vm.classes[c]?).map fun (k : Class) => match k.kind with | .array _ ty => decide (ty = FieldType.array t) && decide (U.vm.findClass ("[" ++ (FieldType.array t).toString) = some c) | _ => false) == some true)) hi1).trans ?_
    have hkk : k'.kind = k.kind := by rw [he]
    have hb' : (match k'.kind with | .array _ ty => decide (ty = FieldType.array t) && decide (U.vm.findClass ("[" ++ (FieldType.array t).toString) = some c) | _ => false) = true := by
      rw [hkk, e2]
      exact hb
    show ((U.vm.classes[c]?).map (fun (k : Class) => match k.kind with | .array _ ty => decide (ty = FieldType.array t) && decide (U.vm.findClass ("[" ++ (FieldType.array t).toString) = some c) | _ => false) == some true) = true
    rw [hk']
    show (some (match k'.kind with | .array _ ty => decide (ty = FieldType.array t) && decide (U.vm.findClass ("[" ++ (FieldType.array t).toString) = some c) | _ => false) == some true) = true
    rw [hb']
    rfl
end
