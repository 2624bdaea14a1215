section
/-! ===== the world of a field: objects by small numbers (ids); what never changes stands in a description, the ints in M ===== -/
abbrev zM : Type := Nat → Nat → Int32
/-- kind of an id, its references, lengths of arrays -/
abbrev zD : Type := (Nat → Nat) × (Nat → Nat → Option Nat) × (Nat → Nat)
def zu (M : zM) (i k : Nat) (v : Int32) : zM := fun j q => if j = i ∧ q = k then v else M j q
theorem zu_self (M : zM) (i k : Nat) (v : Int32) : zu M i k v i k = v := by simp [zu]
theorem zu_id (M : zM) {i k j q : Nat} (v : Int32) (h : j ≠ i) : zu M i k v j q = M j q := by simp [zu, h]
theorem zu_fd (M : zM) {i k j q : Nat} (v : Int32) (h : q ≠ k) : zu M i k v j q = M j q := by simp [zu, h]
def z_fl (R : Nat → Option Nat) (x : Nat → Int32) : List Bool → Nat → List Value
  | [], _ => []
  | b :: l, i => (if b then va_rf (R i) else .int (x i)) :: z_fl R x l (i + 1)
theorem z_fl_get (R : Nat → Option Nat) (x : Nat → Int32) : ∀ (l : List Bool) (i k : Nat) (b : Bool), l[k]? = some b → (z_fl R x l i)[k]? = some (if b then va_rf (R (i + k)) else .int (x (i + k)))
  | [], i, k, b, h => by simp at h
  | c :: l, i, 0, b, h => by
    simp only [List.getElem?_cons_zero, Option.some.injEq] at h
    subst h
    simp [z_fl]
  | c :: l, i, k + 1, b, h => by
    simp only [List.getElem?_cons_succ] at h
    have := z_fl_get R x l (i + 1) k b h
    simp only [z_fl, List.getElem?_cons_succ, this]
    rw [show i + 1 + k = i + (k + 1) by omega]
theorem z_fl_len (R : Nat → Option Nat) (x : Nat → Int32) : ∀ (l : List Bool) (i : Nat), (z_fl R x l i).length = l.length
  | [], i => rfl
  | c :: l, i => by simp [z_fl, z_fl_len R x l (i + 1)]
theorem z_fl_out (R : Nat → Option Nat) (x : Nat → Int32) (k : Nat) (v : Int32) : ∀ (l : List Bool) (i : Nat), k < i → z_fl R (fun q => if q = k then v else x q) l i = z_fl R x l i
  | [], i, h => rfl
  | c :: l, i, h => by
    simp only [z_fl]
    rw [z_fl_out R x k v l (i + 1) (by omega), if_neg (show ¬ i = k by omega)]
theorem z_fl_set (R : Nat → Option Nat) (x : Nat → Int32) (v : Int32) : ∀ (l : List Bool) (i k : Nat), l[k]? = some false → z_fl R (fun q => if q = i + k then v else x q) l i = (z_fl R x l i).set k (.int v)
  | [], i, k, h => by simp at h
  | c :: l, i, 0, h => by
    simp only [List.getElem?_cons_zero, Option.some.injEq] at h
    subst h
    simp only [z_fl, Nat.add_zero, if_true, List.set_cons_zero]
    rw [z_fl_out R x i v l (i + 1) (by omega)]
    simp
  | c :: l, i, k + 1, h => by
    simp only [List.getElem?_cons_succ] at h
    have := z_fl_set R x v l (i + 1) k h
    simp only [z_fl, List.set_cons_succ]
    rw [show i + (k + 1) = i + 1 + k by omega, this, if_neg (show ¬ i = i + 1 + k by omega)]
def z_E (fl : Nat → List Bool) (ca : Nat → ClassId) (wd : zD) (ad : Nat → Nat) (M : zM) (i : Nat) : va_E :=
  if wd.1 i < 100 then .inr (wd.1 i, z_fl (fun k => (wd.2.1 i k).map ad) (M i) (fl (wd.1 i)) 0)
  else if wd.1 i = 100 then .inl (ca 100, wd.2.2 i, .inl (M i))
  else .inl (ca (wd.1 i), wd.2.2 i, .inr (.inr (.inr (.inr (fun k => (wd.2.1 i k).map ad)))))
def z_H (D : va_G) (cl : List vw_C) (fl : Nat → List Bool) (ca : Nat → ClassId) (wd : zD) (ad : Nat → Nat) (M : zM) (H : Heap) : Prop := ∀ i, wd.1 i < 200 → va_at D cl (ad i, z_E fl ca wd ad M i) H
def z_I (wd : zD) (ad : Nat → Nat) : Prop := ∀ i j, wd.1 i < 200 → wd.1 j < 200 → ad i = ad j → i = j
def z_A (wd : zD) (ad : Nat → Nat) : Nat → Prop := fun q => ∃ i, wd.1 i < 200 ∧ ad i = q
theorem z_A.in {wd : zD} {ad : Nat → Nat} {i : Nat} (h : wd.1 i < 200) : z_A wd ad (ad i) := ⟨i, h, rfl⟩
theorem z_E_o {fl : Nat → List Bool} {ca : Nat → ClassId} {wd : zD} {ad : Nat → Nat} {M : zM} {i ci : Nat} (hi : wd.1 i = ci) (hc : ci < 100) : z_E fl ca wd ad M i = .inr (ci, z_fl (fun k => (wd.2.1 i k).map ad) (M i) (fl ci) 0) := by
  unfold z_E
  rw [hi, if_pos hc]
theorem z_E_a {fl : Nat → List Bool} {ca : Nat → ClassId} {wd : zD} {ad : Nat → Nat} {M : zM} {i : Nat} (hi : wd.1 i = 100) : z_E fl ca wd ad M i = .inl (ca 100, wd.2.2 i, .inl (M i)) := by
  unfold z_E
  rw [hi, if_neg (by decide), if_pos rfl]
theorem z_E_q {fl : Nat → List Bool} {ca : Nat → ClassId} {wd : zD} {ad : Nat → Nat} {M : zM} {i c : Nat} (hi : wd.1 i = c) (hc : 100 < c) : z_E fl ca wd ad M i = .inl (ca c, wd.2.2 i, .inr (.inr (.inr (.inr (fun k => (wd.2.1 i k).map ad))))) := by
  unfold z_E
  rw [hi, if_neg (by omega), if_neg (by omega)]
theorem z_H.one {D : va_G} {cl : List vw_C} {fl : Nat → List Bool} {ca : Nat → ClassId} {wd : zD} {ad : Nat → Nat} {M : zM} {H : Heap} (h : z_H D cl fl ca wd ad M H) {i : Nat} (hv : wd.1 i < 200) : va_P D cl [(ad i, z_E fl ca wd ad M i)] H := by
  intro k q hk
  have hz : k < 1 := (List.getElem?_eq_some_iff.mp hk).1
  rw [show k = 0 by omega] at hk
  cases hk
  exact h i hv
/-- the values at the places that count decide -/
theorem z_H.congr {D : va_G} {cl : List vw_C} {fl : Nat → List Bool} {ca : Nat → ClassId} {wd : zD} {ad : Nat → Nat} {M M' : zM} {H : Heap} (h : z_H D cl fl ca wd ad M H) (hq : ∀ i, wd.1 i < 200 → z_E fl ca wd ad M i = z_E fl ca wd ad M' i) : z_H D cl fl ca wd ad M' H := fun i hv => by rw [← hq i hv]; exact h i hv
theorem z_H.kept {D : va_G} {cl : List vw_C} {fl : Nat → List Bool} {ca : Nat → ClassId} {wd : zD} {ad : Nat → Nat} {M : zM} {H H1 : Heap} (h : z_H D cl fl ca wd ad M H) (hq : ∀ i, wd.1 i < 200 → H1[ad i]? = H[ad i]?) : z_H D cl fl ca wd ad M H1 := fun i hv => (h i hv).kept (hq i hv)
theorem z_H.lt {D : va_G} {cl : List vw_C} {fl : Nat → List Bool} {ca : Nat → ClassId} {wd : zD} {ad : Nat → Nat} {M : zM} {H : Heap} (h : z_H D cl fl ca wd ad M H) {i : Nat} (hv : wd.1 i < 200) : ad i < H.size := (h i hv).lt
/-- behind a write of one int -/
theorem z_H.put {D : va_G} {cl : List vw_C} {fl : Nat → List Bool} {ca : Nat → ClassId} {wd : zD} {ad : Nat → Nat} {M : zM} {H H1 : Heap} (h : z_H D cl fl ca wd ad M H) (hI : z_I wd ad) {i k : Nat} {v : Int32} (hv : wd.1 i < 200) (he : va_at D cl (ad i, z_E fl ca wd ad (zu M i k v) i) H1) (oq : ∀ q : Nat, q ≠ ad i → H1[q]? = H[q]?) : z_H D cl fl ca wd ad (zu M i k v) H1 := by
  intro j hj
  by_cases hji : j = i
  · subst hji
    exact he
  · have h1 := (h j hj).kept (H1 := H1) (oq (ad j) (fun z => hji (hI j i hj hv z)))
    have h2 : z_E fl ca wd ad (zu M i k v) j = z_E fl ca wd ad M j := by
      have : zu M i k v j = M j := by funext q; exact zu_id M v hji
      unfold z_E
      rw [this]
    rw [h2]
    exact h1
section ZW
variable {p : Program} {l : Launch} {e : Env} {R : Room} {s : State} {m : MethodId} {args : Array Value} {below : List Frame} {meth : Method} {c : Code} {H : Heap} {locs : List Loc} {cells slots : Nat} {Q : State → Prop}
variable {cc : ByteArray} {pc : Nat} {ls : Array Slot} {rest : List Value} {D : va_G} {cl : List vw_C} {A : Nat → Prop} {tys : List (ClassId × FieldType)} {H0 : Heap}
variable {fl : Nat → List Bool} {ca : Nat → ClassId} {wd : zD} {ad : Nat → Nat} {M : zM}
theorem z_gi (hexec : p.tables.exec = Jvm.exec) (hb : c.code = cc) {own ref C : String} {T : u_T} {N ci index i k : Nat} {Ts : List Cond} (hts : ∀ w ∈ Ts, w.before args s = true) (hin : ∀ w ∈ u_ws C T N, w ∈ Ts) (hown : s.vm.findClass own = some m.cls) (hK : va_K D cl tys s) (hH : z_H D cl fl ca wd ad M H) (hi : wd.1 i = ci) (hci : ci < 100) (hc : cl[ci]? = some (C, T, N)) (hk : k < N) (hf : (fl ci)[k]? = some false) (hlink : (Cond.fieldLink own index ref (T k).2.1 (T k).2.2.1).before args s = true) (hsame : ∀ x, s.fieldFound? (T k).1 (T k).2.1 (T k).2.2.1 = some x → s.fieldFound? ref (T k).2.1 (T k).2.2.1 = some x) (hdg : decode cc pc = .ok (.getfield index, 3))
    (kk : W p l e R s m args below meth c H locs cells slots Q (F0 m (pc + 3) ls (.int (M i k) :: rest))) : W p l e R s m args below meth c H locs cells slots Q (F0 m pc ls (.ref (ad i) :: rest)) := by
  have hP := hH.one (i := i) (by omega)
  rw [z_E_o hi hci] at hP
  refine va_get hexec hb hts hin hown hK hP 0 rfl hc k hk hlink hsame (v := .int (M i k)) ?_ hdg kk
  have := z_fl_get (fun k => (wd.2.1 i k).map ad) (M i) (fl ci) 0 k false hf
  simpa using this
theorem z_gr (hexec : p.tables.exec = Jvm.exec) (hb : c.code = cc) {own ref C : String} {T : u_T} {N ci index i j k : Nat} {Ts : List Cond} (hts : ∀ w ∈ Ts, w.before args s = true) (hin : ∀ w ∈ u_ws C T N, w ∈ Ts) (hown : s.vm.findClass own = some m.cls) (hK : va_K D cl tys s) (hH : z_H D cl fl ca wd ad M H) (hi : wd.1 i = ci) (hci : ci < 100) (hc : cl[ci]? = some (C, T, N)) (hk : k < N) (hf : (fl ci)[k]? = some true) (hj : wd.2.1 i k = some j) (hlink : (Cond.fieldLink own index ref (T k).2.1 (T k).2.2.1).before args s = true) (hsame : ∀ x, s.fieldFound? (T k).1 (T k).2.1 (T k).2.2.1 = some x → s.fieldFound? ref (T k).2.1 (T k).2.2.1 = some x) (hdg : decode cc pc = .ok (.getfield index, 3))
    (kk : W p l e R s m args below meth c H locs cells slots Q (F0 m (pc + 3) ls (.ref (ad j) :: rest))) : W p l e R s m args below meth c H locs cells slots Q (F0 m pc ls (.ref (ad i) :: rest)) := by
  have hP := hH.one (i := i) (by omega)
  rw [z_E_o hi hci] at hP
  refine va_get hexec hb hts hin hown hK hP 0 rfl hc k hk hlink hsame (v := .ref (ad j)) ?_ hdg kk
  have := z_fl_get (fun k => (wd.2.1 i k).map ad) (M i) (fl ci) 0 k true hf
  simpa [hj, va_rf] using this
theorem z_giN (hexec : p.tables.exec = Jvm.exec) (hb : c.code = cc) {own ref C host : String} {T : u_T} {N ci index i k : Nat} {Ts : List Cond} (hts : ∀ w ∈ Ts, w.before args s = true) (hin : ∀ w ∈ u_ws C T N, w ∈ Ts) (hown : s.vm.findClass own = some m.cls) (hK : va_K D cl tys s) (hH : z_H D cl fl ca wd ad M H) (hi : wd.1 i = ci) (hci : ci < 100) (hc : cl[ci]? = some (C, T, N)) (hk : k < N) (hf : (fl ci)[k]? = some false) (hlink : va_Nw (Cond.fieldLinkNest own index ref (T k).2.1 (T k).2.2.1 host) s) (hsame : ∀ x, s.fieldFound? (T k).1 (T k).2.1 (T k).2.2.1 = some x → s.fieldFound? ref (T k).2.1 (T k).2.2.1 = some x) (hdg : decode cc pc = .ok (.getfield index, 3))
    (kk : W p l e R s m args below meth c H locs cells slots Q (F0 m (pc + 3) ls (.int (M i k) :: rest))) : W p l e R s m args below meth c H locs cells slots Q (F0 m pc ls (.ref (ad i) :: rest)) := by
  have hP := hH.one (i := i) (by omega)
  rw [z_E_o hi hci] at hP
  refine va_getN hexec hb hts hin hown hK hP 0 rfl hc k hk (va_Nw.use rfl hlink) hsame (v := .int (M i k)) ?_ hdg kk
  have := z_fl_get (fun k => (wd.2.1 i k).map ad) (M i) (fl ci) 0 k false hf
  simpa using this
theorem z_grN (hexec : p.tables.exec = Jvm.exec) (hb : c.code = cc) {own ref C host : String} {T : u_T} {N ci index i j k : Nat} {Ts : List Cond} (hts : ∀ w ∈ Ts, w.before args s = true) (hin : ∀ w ∈ u_ws C T N, w ∈ Ts) (hown : s.vm.findClass own = some m.cls) (hK : va_K D cl tys s) (hH : z_H D cl fl ca wd ad M H) (hi : wd.1 i = ci) (hci : ci < 100) (hc : cl[ci]? = some (C, T, N)) (hk : k < N) (hf : (fl ci)[k]? = some true) (hj : wd.2.1 i k = some j) (hlink : va_Nw (Cond.fieldLinkNest own index ref (T k).2.1 (T k).2.2.1 host) s) (hsame : ∀ x, s.fieldFound? (T k).1 (T k).2.1 (T k).2.2.1 = some x → s.fieldFound? ref (T k).2.1 (T k).2.2.1 = some x) (hdg : decode cc pc = .ok (.getfield index, 3))
    (kk : W p l e R s m args below meth c H locs cells slots Q (F0 m (pc + 3) ls (.ref (ad j) :: rest))) : W p l e R s m args below meth c H locs cells slots Q (F0 m pc ls (.ref (ad i) :: rest)) := by
  have hP := hH.one (i := i) (by omega)
  rw [z_E_o hi hci] at hP
  refine va_getN hexec hb hts hin hown hK hP 0 rfl hc k hk (va_Nw.use rfl hlink) hsame (v := .ref (ad j)) ?_ hdg kk
  have := z_fl_get (fun k => (wd.2.1 i k).map ad) (M i) (fl ci) 0 k true hf
  simpa [hj, va_rf] using this
theorem z_put_at {C : String} {T : u_T} {N ci i k : Nat} {cell : Cell} {v : Int32} {H' : Heap} (hc : cl[ci]? = some (C, T, N)) (hi : wd.1 i = ci) (hci : ci < 100) (hk : k < N) (hf : (fl ci)[k]? = some false) (hap : ∀ x y, x < N → y < N → x ≠ y → (D.2 ci) x ≠ (D.2 ci) y) (q2 : cell.cls = D.1 ci) (q3 : cell.vm = .none) (q4 : ∀ q, q < N → cell.slots[D.2 ci q]? = some (vp_V (z_fl (fun k => (wd.2.1 i k).map ad) (M i) (fl ci) 0) q)) (e1 : H'[ad i]? = some (cell.setSlot (D.2 ci k) (.int v))) : va_at D cl (ad i, z_E fl ca wd ad (zu M i k v) i) H' := by
  rw [z_E_o hi hci]
  have h1 : zu M i k v i = fun q => if q = 0 + k then v else M i q := by
    funext q
    simp [zu]
  rw [h1, z_fl_set _ _ _ _ _ _ hf]
  have hl : k < (z_fl (fun k => (wd.2.1 i k).map ad) (M i) (fl ci) 0).length := by
    rw [z_fl_len]
    exact (List.getElem?_eq_some_iff.mp hf).1
  exact ⟨_, hc, t_OB.to (V := updV (vp_V (z_fl (fun k => (wd.2.1 i k).map ad) (M i) (fl ci) 0)) k (.int v)) ⟨_, e1, q2, q3, t_set q4 hap hk (.int v)⟩ (fun j _ => vp_updV_set hl (.int v) j)⟩
theorem z_pi (hexec : p.tables.exec = Jvm.exec) (hb : c.code = cc) {own ref C : String} {T : u_T} {N ci index i k : Nat} {Ts : List Cond} (hts : ∀ w ∈ Ts, w.before args s = true) (hin : ∀ w ∈ u_ws C T N, w ∈ Ts) (ty0 : Nat → FieldType) (hty : ∀ k, k < N → parseFieldDescriptor (T k).2.2.1 = some (ty0 k)) (hnm : ∀ a, a < N → ∀ b, b < N → a ≠ b → (T a).2.1 ≠ (T b).2.1) (hown : s.vm.findClass own = some m.cls) (hK : va_K D cl tys s) (hH : z_H D cl fl ca wd ad M H) (hI : z_I wd ad) (hS0 : va_S A H0 H locs) (hA : ∀ q, z_A wd ad q → A q) (hi : wd.1 i = ci) (hci : ci < 100) (hc : cl[ci]? = some (C, T, N)) (hk : k < N) (hf : (fl ci)[k]? = some false) (hlink : (Cond.fieldLink own index ref (T k).2.1 (T k).2.2.1).before args s = true) (hsame : ∀ x, s.fieldFound? (T k).1 (T k).2.1 (T k).2.2.1 = some x → s.fieldFound? ref (T k).2.1 (T k).2.2.1 = some x) (hfin : (T k).2.2.2 = false) {ty : FieldType} {v : Int32} (hd : parseFieldDescriptor (T k).2.2.1 = some ty) (hn : narrow ty (.int v) = .int v) (hfit : fits ty (.int v) = true)
    (hdg : decode cc pc = .ok (.putfield index, 3)) (kk : ∀ (H1 : Heap) (locs1 : List Loc), z_H D cl fl ca wd ad (zu M i k v) H1 → va_S A H0 H1 locs1 → W p l e R s m args below meth c H1 locs1 cells slots Q (F0 m (pc + 3) ls rest)) : W p l e R s m args below meth c H locs cells slots Q (F0 m pc ls (.int v :: .ref (ad i) :: rest)) := by
  have hap := va_apart (own := own) hts hin ty0 hty hnm hK hc
  have hv : wd.1 i < 200 := by omega
  have h0 := hH i hv
  rw [z_E_o hi hci] at h0
  obtain ⟨r, h1, cell, q1, q2, q3, q4⟩ := h0
  have hr : r = (C, T, N) := Option.some.inj (h1.symm.trans hc)
  subst hr
  obtain ⟨hS, hfc, kC, hkC, hkind⟩ := hK.1 ci _ hc
  obtain ⟨cf, kf, fi, f, hi', hsl⟩ := hS k hk
  have hlay := hts _ (hin _ (u_in_lay hk))
  unfold u_lay at hlay
  rw [if_neg (by rw [hfin]; decide)] at hlay
  have hst := (u_facts hfc hkC (u_lays hts hin hk) hi').1
  have h6 := u_store hfc hkC hkind hlay hi' hd hn hfit
  refine W.putK hexec hb (f := f) ⟨hown, hlink, ⟨_, _, _, hsame _ hi'⟩, hst⟩ (by rw [q2]; exact h6) q1 q3 (by rw [hsl]; exact k2_hasslot (q4 k hk)) rfl rfl hdg fun H' e1 e2 e3 => ?_
  rw [hsl] at e1 ⊢
  exact kk H' _ (hH.put hI hv (z_put_at hc hi hci hk hf hap q2 q3 q4 e1) e3) (hS0.put e2 e3 (hA _ (z_A.in hv)))
theorem z_piN (hexec : p.tables.exec = Jvm.exec) (hb : c.code = cc) {own ref C host : String} {T : u_T} {N ci index i k : Nat} {Ts : List Cond} (hts : ∀ w ∈ Ts, w.before args s = true) (hin : ∀ w ∈ u_ws C T N, w ∈ Ts) (ty0 : Nat → FieldType) (hty : ∀ k, k < N → parseFieldDescriptor (T k).2.2.1 = some (ty0 k)) (hnm : ∀ a, a < N → ∀ b, b < N → a ≠ b → (T a).2.1 ≠ (T b).2.1) (hown : s.vm.findClass own = some m.cls) (hK : va_K D cl tys s) (hH : z_H D cl fl ca wd ad M H) (hI : z_I wd ad) (hS0 : va_S A H0 H locs) (hA : ∀ q, z_A wd ad q → A q) (hi : wd.1 i = ci) (hci : ci < 100) (hc : cl[ci]? = some (C, T, N)) (hk : k < N) (hf : (fl ci)[k]? = some false) (hlink : va_Nw (Cond.fieldLinkNest own index ref (T k).2.1 (T k).2.2.1 host) s) (hsame : ∀ x, s.fieldFound? (T k).1 (T k).2.1 (T k).2.2.1 = some x → s.fieldFound? ref (T k).2.1 (T k).2.2.1 = some x) (hfin : (T k).2.2.2 = false) {ty : FieldType} {v : Int32} (hd : parseFieldDescriptor (T k).2.2.1 = some ty) (hn : narrow ty (.int v) = .int v) (hfit : fits ty (.int v) = true)
    (hdg : decode cc pc = .ok (.putfield index, 3)) (kk : ∀ (H1 : Heap) (locs1 : List Loc), z_H D cl fl ca wd ad (zu M i k v) H1 → va_S A H0 H1 locs1 → W p l e R s m args below meth c H1 locs1 cells slots Q (F0 m (pc + 3) ls rest)) : W p l e R s m args below meth c H locs cells slots Q (F0 m pc ls (.int v :: .ref (ad i) :: rest)) := by
  have hap := va_apart (own := own) hts hin ty0 hty hnm hK hc
  have hv : wd.1 i < 200 := by omega
  have h0 := hH i hv
  rw [z_E_o hi hci] at h0
  obtain ⟨r, h1, cell, q1, q2, q3, q4⟩ := h0
  have hr : r = (C, T, N) := Option.some.inj (h1.symm.trans hc)
  subst hr
  obtain ⟨hS, hfc, kC, hkC, hkind⟩ := hK.1 ci _ hc
  obtain ⟨cf, kf, fi, f, hi', hsl⟩ := hS k hk
  have hlay := hts _ (hin _ (u_in_lay hk))
  unfold u_lay at hlay
  rw [if_neg (by rw [hfin]; decide)] at hlay
  have hst := (u_facts hfc hkC (u_lays hts hin hk) hi').1
  have h6 := u_store hfc hkC hkind hlay hi' hd hn hfit
  refine va_WputK hexec hb (f := f) hown (va_Nw.use rfl hlink) (hsame _ hi') hst (by rw [q2]; exact h6) q1 q3 (by rw [hsl]; exact k2_hasslot (q4 k hk)) rfl rfl hdg fun H' e1 e2 e3 => ?_
  rw [hsl] at e1 ⊢
  exact kk H' _ (hH.put hI hv (z_put_at hc hi hci hk hf hap q2 q3 q4 e1) e3) (hS0.put e2 e3 (hA _ (z_A.in hv)))
/-- an int out of an array -/
theorem z_al (hexec : p.tables.exec = Jvm.exec) (hb : c.code = cc) (hK : va_K D cl tys s) (hH : z_H D cl fl ca wd ad M H) {i t0 : Nat} (hi : wd.1 i = 100) (ht : tys[t0]? = some (ca 100, .int)) {x : Int32} (hin : vp_in x (wd.2.2 i)) (hdg : decode cc pc = .ok (.iaload, 1))
    (kk : W p l e R s m args below meth c H locs cells slots Q (F0 m (pc + 1) ls (.int (M i x.toNatClampNeg) :: rest))) : W p l e R s m args below meth c H locs cells slots Q (F0 m pc ls (.int x :: .ref (ad i) :: rest)) := by
  have hP := hH.one (i := i) (by omega)
  rw [z_E_a hi] at hP
  exact va_iald hexec hb hK hP 0 t0 rfl ht hin hdg kk
theorem z_as (hexec : p.tables.exec = Jvm.exec) (hb : c.code = cc) (hK : va_K D cl tys s) (hH : z_H D cl fl ca wd ad M H) (hI : z_I wd ad) (hS : va_S A H0 H locs) (hA : ∀ q, z_A wd ad q → A q) {i t0 : Nat} (hi : wd.1 i = 100) (ht : tys[t0]? = some (ca 100, .int)) {x v : Int32} (hin : vp_in x (wd.2.2 i)) (hdg : decode cc pc = .ok (.iastore, 1))
    (kk : ∀ (H1 : Heap) (locs1 : List Loc), z_H D cl fl ca wd ad (zu M i x.toNatClampNeg v) H1 → va_S A H0 H1 locs1 → W p l e R s m args below meth c H1 locs1 cells slots Q (F0 m (pc + 1) ls rest)) : W p l e R s m args below meth c H locs cells slots Q (F0 m pc ls (.int v :: .int x :: .ref (ad i) :: rest)) := by
  have hv : wd.1 i < 200 := by omega
  have h0 := hH i hv
  rw [z_E_a hi] at h0
  refine W.iast hexec hb h0 ((hK.2 t0 _ ht).1 (wd.2.2 i) (fun j => .int (M i j))) (fun q => by cases q) (by show ¬ (x < 0 ∨ (arrV _ _ _).slots.size ≤ _); rw [arrV_size]; exact hin) rfl rfl hdg fun H1 e z oq => ?_
  refine kk H1 _ (hH.put hI hv ?_ oq) (hS.put z oq (hA _ (z_A.in hv)))
  rw [z_E_a hi]
  show H1[ad i]? = some (vp_cell _ _)
  rw [e]
  rw [vp_cell_i, vp_cell_i, arrV_store]
  congr 2
  funext q
  by_cases hq : q = x.toNatClampNeg
  · subst hq
    simp [updV, zu]
  · simp [updV, zu, hq]
/-- a reference out of an array -/
theorem z_aq (hexec : p.tables.exec = Jvm.exec) (hb : c.code = cc) (hK : va_K D cl tys s) (hH : z_H D cl fl ca wd ad M H) {i j t0 k : Nat} {C : String} (hi : wd.1 i = k) (hk : 100 < k) (hk2 : k < 200) (ht : tys[t0]? = some (ca k, .object C)) {x : Int32} (hin : vp_in x (wd.2.2 i)) (hj : wd.2.1 i x.toNatClampNeg = some j) (hdg : decode cc pc = .ok (.aaload, 1))
    (kk : W p l e R s m args below meth c H locs cells slots Q (F0 m (pc + 1) ls (.ref (ad j) :: rest))) : W p l e R s m args below meth c H locs cells slots Q (F0 m pc ls (.int x :: .ref (ad i) :: rest)) := by
  have hP := hH.one (i := i) (by omega)
  rw [z_E_q hi hk] at hP
  refine va_aldq hexec hb hK hP 0 t0 rfl ht hin hdg ?_
  simpa [hj, va_rf] using kk
/-- the receiver of a call -/
theorem z_recv {ci i : Nat} {q : vw_C} (hK : va_K D cl tys s) (hH : z_H D cl fl ca wd ad M H) (hi : wd.1 i = ci) (hci : ci < 100) (hc : cl[ci]? = some q) : ∃ cell : Cell, H[ad i]? = some cell ∧ cell.vm.isStatics = false ∧ s.vm.findClass q.1 = some cell.cls := by
  have hP := hH.one (i := i) (by omega)
  rw [z_E_o hi hci] at hP
  exact va_recv hK hP hc (q0 := 0) rfl
end ZW
/-! ===== contracts over such worlds ===== -/
/-- the tables' facts that a contract hands on: what is known of classes, and words on nest mates -/
def z_N (nw : List Cond) (U : State) : Prop := ∀ w ∈ nw, va_Nw w U
def z_nest : Cond → Bool
  | .fieldLinkNest _ _ _ _ _ _ => true
  | .methodLinkNest _ _ _ _ => true
  | _ => false
theorem z_N.warm {nw : List Cond} (hn : nw.all z_nest = true) {s U : State} (hW : s.WarmedH U.vm) (h : z_N nw s) : z_N nw U := by
  intro w hw
  have h1 := List.all_eq_true.mp hn w hw
  have h2 := h w hw
  cases w <;> first | exact va_Nw.warmF hW h2 | exact va_Nw.warmM hW h2 | exact absurd h1 (by simp [z_nest])
theorem z_nest_tab {w : Cond} (h : z_nest w = true) : w.onTables = true := by
  cases w <;> first | rfl | exact absurd h (by simp [z_nest])
theorem z_N.same {nw : List Cond} (hn : nw.all z_nest = true) {s U : State} (hv : s.vm = U.vm) (h : z_N nw s) : z_N nw U := fun w hw => va_Nw.same (z_nest_tab (List.all_eq_true.mp hn w hw)) hv (h w hw)
abbrev z_Pc (D : va_G) (cl : List vw_C) (tys : List (ClassId × FieldType)) (nw : List Cond) (av : List Value) (B : Heap → Prop) : Array Value → State → Prop := va_Pc av (fun U => B U.heap ∧ va_K D cl tys U ∧ z_N nw U)
abbrev z_Qi (v : Int32) (B : Heap → Prop) (A : Nat → Prop) : Array Value → State → Outcome → State → Prop := va_Qi (fun (r : Int32) (_ : Unit) => r = v) (fun _ t => B t.heap) A
abbrev z_Ql (v : Int64) (B : Heap → Prop) (A : Nat → Prop) : Array Value → State → Outcome → State → Prop := va_Ql (fun (r : Int64) (_ : Unit) => r = v) (fun _ t => B t.heap) A
abbrev z_Qv (B : Heap → Prop) (A : Nat → Prop) : Array Value → State → Outcome → State → Prop := va_Qv (fun (_ : Unit) => True) (fun _ t => B t.heap) A
theorem z_blind {D : va_G} {cl : List vw_C} {tys : List (ClassId × FieldType)} {nw : List Cond} (hn : nw.all z_nest = true) {av : List Value} {B : Heap → Prop} : FrameBlind (z_Pc D cl tys nw av B) := fun a U g mk q => by
  obtain ⟨q0, qB, qK, qN⟩ := q
  exact ⟨q0, qB, va_K.moved (u := U) (U := U.calling g mk a) (Vm.Alike.refl U.vm) qK, z_N.same (s := U) (U := U.calling g mk a) hn rfl qN⟩
section ZC
variable {p : Program} {l : Launch} {e : Env} {R : Room} {s : State} {m : MethodId} {args : Array Value} {below : List Frame} {meth : Method} {c : Code} {H : Heap} {locs : List Loc} {cells slots : Nat} {Q : State → Prop}
variable {cc : ByteArray} {pc nL : Nat} {ls : Array Slot} {rest st0 : List Value} {D : va_G} {cl : List vw_C} {A0 A1 : Nat → Prop} {tys : List (ClassId × FieldType)} {H0 : Heap} {nw : List Cond}
variable {y : MethodName} {bytes : ByteArray} {maxL n index : Nat} {ret : Option FieldType} {ws Ts : List Cond} {rm : Room} {own C host : String} {b : Addr} {As : List Value} {B B' : Heap → Prop}
theorem z_room {st : List Value} {pc : Nat} {ls : Array Slot} {rest : List Value} (h : (st.map fun v => v.category).sum ≤ 8) : 2 * (F0 m pc ls rest).monitorRoom + (st.map fun v => v.category).sum ≤ 8 := lv_room h
theorem z_cVi {v : Int32} (S : CallFix p m c cc nL s args Ts own) (hM : Met l y ws rm (z_Pc D cl tys nw (.ref b :: As) B) (z_Qi v B' A1) 0 0 A1) (cw : CallW R s args own C index y bytes maxL ret ws rm 0 0 n)
    (hrec : ∃ cell : Cell, H[b]? = some cell ∧ cell.vm.isStatics = false ∧ s.vm.findClass C = some cell.cls) (hB : B H) (hK : va_K D cl tys s) (hN : z_N nw s) (hnw : nw.all z_nest = true) (hn : As.length = n) (hsize : ls.size = nL) (hst : st0 = As.reverse ++ .ref b :: rest) (hW : (rest.map fun v => v.category).sum ≤ 8) (hdg : decode cc pc = .ok (.invokevirtual index, 3)) (hf : cells ≤ R.cells ∧ slots ≤ R.slots) (hS : va_S A0 H0 H locs) (hA : ∀ q, A1 q → A0 q)
    (kk : ∀ (H1 : Heap) (locs1 : List Loc), B' H1 → (∀ q : Nat, q < H.size → ¬ A1 q → H1[q]? = H[q]?) → H.size ≤ H1.size → va_S A0 H0 H1 locs1 → W p l e R s m args below meth c H1 locs1 cells slots Q (F0 m (pc + 3) ls (.int v :: rest))) : W p l e R s m args below meth c H locs cells slots Q (F0 m pc ls st0) := by
  refine va_calli (va_runV S hM cw ⟨z_blind hnw, hrec, fun U hU hW => ⟨rfl, by rw [hU]; exact hB, va_K.moved hW.alike hK, hN.warm hnw hW⟩⟩ rfl hn hsize hst (lv_room hW) hdg hf) hS (fun q _ h => hA q h) hA (fun r u t H1 locs1 ht hvm hw hB1 hz1 hk1 hS1 => ?_)
  subst hw
  rw [ht] at hB1
  exact kk H1 locs1 hB1 hk1 hz1 hS1
theorem z_cVv (S : CallFix p m c cc nL s args Ts own) (hM : Met l y ws rm (z_Pc D cl tys nw (.ref b :: As) B) (z_Qv B' A1) 0 0 A1) (cw : CallW R s args own C index y bytes maxL ret ws rm 0 0 n)
    (hrec : ∃ cell : Cell, H[b]? = some cell ∧ cell.vm.isStatics = false ∧ s.vm.findClass C = some cell.cls) (hB : B H) (hK : va_K D cl tys s) (hN : z_N nw s) (hnw : nw.all z_nest = true) (hn : As.length = n) (hsize : ls.size = nL) (hst : st0 = As.reverse ++ .ref b :: rest) (hW : (rest.map fun v => v.category).sum ≤ 8) (hdg : decode cc pc = .ok (.invokevirtual index, 3)) (hf : cells ≤ R.cells ∧ slots ≤ R.slots) (hS : va_S A0 H0 H locs) (hA : ∀ q, A1 q → A0 q)
    (kk : ∀ (H1 : Heap) (locs1 : List Loc), B' H1 → (∀ q : Nat, q < H.size → ¬ A1 q → H1[q]? = H[q]?) → H.size ≤ H1.size → va_S A0 H0 H1 locs1 → W p l e R s m args below meth c H1 locs1 cells slots Q (F0 m (pc + 3) ls rest)) : W p l e R s m args below meth c H locs cells slots Q (F0 m pc ls st0) := by
  refine va_callv (va_runV S hM cw ⟨z_blind hnw, hrec, fun U hU hW => ⟨rfl, by rw [hU]; exact hB, va_K.moved hW.alike hK, hN.warm hnw hW⟩⟩ rfl hn hsize hst (lv_room hW) hdg hf) hS (fun q _ h => hA q h) hA (fun u t H1 locs1 ht hvm hw hB1 hz1 hk1 hS1 => ?_)
  rw [ht] at hB1
  exact kk H1 locs1 hB1 hk1 hz1 hS1
theorem z_cNi {v : Int32} (S : CallFix p m c cc nL s args Ts own) (hM : Met l y ws rm (z_Pc D cl tys nw (.ref b :: As) B) (z_Qi v B' A1) 0 0 A1) (cw : va_CN R s args own index y host bytes maxL ret ws rm 0 0 n ∧ (Cond.instanceMethod y).before args s = true ∧ (Cond.selects C y y).before args s = true)
    (hrec : ∃ cell : Cell, H[b]? = some cell ∧ cell.vm.isStatics = false ∧ s.vm.findClass C = some cell.cls) (hB : B H) (hK : va_K D cl tys s) (hN : z_N nw s) (hnw : nw.all z_nest = true) (hn : As.length = n) (hsize : ls.size = nL) (hst : st0 = As.reverse ++ .ref b :: rest) (hW : (rest.map fun v => v.category).sum ≤ 8) (hdg : decode cc pc = .ok (.invokevirtual index, 3)) (hf : cells ≤ R.cells ∧ slots ≤ R.slots) (hS : va_S A0 H0 H locs) (hA : ∀ q, A1 q → A0 q)
    (kk : ∀ (H1 : Heap) (locs1 : List Loc), B' H1 → (∀ q : Nat, q < H.size → ¬ A1 q → H1[q]? = H[q]?) → H.size ≤ H1.size → va_S A0 H0 H1 locs1 → W p l e R s m args below meth c H1 locs1 cells slots Q (F0 m (pc + 3) ls (.int v :: rest))) : W p l e R s m args below meth c H locs cells slots Q (F0 m pc ls st0) := by
  refine va_calli (va_runVN S hM cw ⟨z_blind hnw, hrec, fun U hU hW => ⟨rfl, by rw [hU]; exact hB, va_K.moved hW.alike hK, hN.warm hnw hW⟩⟩ rfl hn hsize hst (lv_room hW) hdg hf) hS (fun q _ h => hA q h) hA (fun r u t H1 locs1 ht hvm hw hB1 hz1 hk1 hS1 => ?_)
  subst hw
  rw [ht] at hB1
  exact kk H1 locs1 hB1 hk1 hz1 hS1
theorem z_cNv (S : CallFix p m c cc nL s args Ts own) (hM : Met l y ws rm (z_Pc D cl tys nw (.ref b :: As) B) (z_Qv B' A1) 0 0 A1) (cw : va_CN R s args own index y host bytes maxL ret ws rm 0 0 n ∧ (Cond.instanceMethod y).before args s = true ∧ (Cond.selects C y y).before args s = true)
    (hrec : ∃ cell : Cell, H[b]? = some cell ∧ cell.vm.isStatics = false ∧ s.vm.findClass C = some cell.cls) (hB : B H) (hK : va_K D cl tys s) (hN : z_N nw s) (hnw : nw.all z_nest = true) (hn : As.length = n) (hsize : ls.size = nL) (hst : st0 = As.reverse ++ .ref b :: rest) (hW : (rest.map fun v => v.category).sum ≤ 8) (hdg : decode cc pc = .ok (.invokevirtual index, 3)) (hf : cells ≤ R.cells ∧ slots ≤ R.slots) (hS : va_S A0 H0 H locs) (hA : ∀ q, A1 q → A0 q)
    (kk : ∀ (H1 : Heap) (locs1 : List Loc), B' H1 → (∀ q : Nat, q < H.size → ¬ A1 q → H1[q]? = H[q]?) → H.size ≤ H1.size → va_S A0 H0 H1 locs1 → W p l e R s m args below meth c H1 locs1 cells slots Q (F0 m (pc + 3) ls rest)) : W p l e R s m args below meth c H locs cells slots Q (F0 m pc ls st0) := by
  refine va_callv (va_runVN S hM cw ⟨z_blind hnw, hrec, fun U hU hW => ⟨rfl, by rw [hU]; exact hB, va_K.moved hW.alike hK, hN.warm hnw hW⟩⟩ rfl hn hsize hst (lv_room hW) hdg hf) hS (fun q _ h => hA q h) hA (fun u t H1 locs1 ht hvm hw hB1 hz1 hk1 hS1 => ?_)
  rw [ht] at hB1
  exact kk H1 locs1 hB1 hk1 hz1 hS1
theorem z_cSi {v : Int32} (S : CallFix p m c cc nL s args Ts own) (hM : Met l y ws rm (z_Pc D cl tys nw As B) (z_Qi v B' A1) 0 0 A1) (cw : CallB R s args own index y bytes maxL ret ws rm 0 0 n ∧ (Cond.static y).before args s = true)
    (hB : B H) (hK : va_K D cl tys s) (hN : z_N nw s) (hnw : nw.all z_nest = true) (hn : As.length = n) (hsize : ls.size = nL) (hst : st0 = As.reverse ++ rest) (hW : (rest.map fun v => v.category).sum ≤ 8) (hdg : decode cc pc = .ok (.invokestatic index, 3)) (hf : cells ≤ R.cells ∧ slots ≤ R.slots) (hS : va_S A0 H0 H locs) (hA : ∀ q, A1 q → A0 q)
    (kk : ∀ (H1 : Heap) (locs1 : List Loc), B' H1 → (∀ q : Nat, q < H.size → ¬ A1 q → H1[q]? = H[q]?) → H.size ≤ H1.size → va_S A0 H0 H1 locs1 → W p l e R s m args below meth c H1 locs1 cells slots Q (F0 m (pc + 3) ls (.int v :: rest))) : W p l e R s m args below meth c H locs cells slots Q (F0 m pc ls st0) := by
  refine va_calli (va_runS S hM cw ⟨z_blind hnw, fun U hU hW => ⟨rfl, by rw [hU]; exact hB, va_K.moved hW.alike hK, hN.warm hnw hW⟩⟩ rfl hn hsize hst (lv_room hW) hdg hf) hS (fun q _ h => hA q h) hA (fun r u t H1 locs1 ht hvm hw hB1 hz1 hk1 hS1 => ?_)
  subst hw
  rw [ht] at hB1
  exact kk H1 locs1 hB1 hk1 hz1 hS1
theorem z_cSv (S : CallFix p m c cc nL s args Ts own) (hM : Met l y ws rm (z_Pc D cl tys nw As B) (z_Qv B' A1) 0 0 A1) (cw : CallB R s args own index y bytes maxL ret ws rm 0 0 n ∧ (Cond.static y).before args s = true)
    (hB : B H) (hK : va_K D cl tys s) (hN : z_N nw s) (hnw : nw.all z_nest = true) (hn : As.length = n) (hsize : ls.size = nL) (hst : st0 = As.reverse ++ rest) (hW : (rest.map fun v => v.category).sum ≤ 8) (hdg : decode cc pc = .ok (.invokestatic index, 3)) (hf : cells ≤ R.cells ∧ slots ≤ R.slots) (hS : va_S A0 H0 H locs) (hA : ∀ q, A1 q → A0 q)
    (kk : ∀ (H1 : Heap) (locs1 : List Loc), B' H1 → (∀ q : Nat, q < H.size → ¬ A1 q → H1[q]? = H[q]?) → H.size ≤ H1.size → va_S A0 H0 H1 locs1 → W p l e R s m args below meth c H1 locs1 cells slots Q (F0 m (pc + 3) ls rest)) : W p l e R s m args below meth c H locs cells slots Q (F0 m pc ls st0) := by
  refine va_callv (va_runS S hM cw ⟨z_blind hnw, fun U hU hW => ⟨rfl, by rw [hU]; exact hB, va_K.moved hW.alike hK, hN.warm hnw hW⟩⟩ rfl hn hsize hst (lv_room hW) hdg hf) hS (fun q _ h => hA q h) hA (fun u t H1 locs1 ht hvm hw hB1 hz1 hk1 hS1 => ?_)
  rw [ht] at hB1
  exact kk H1 locs1 hB1 hk1 hz1 hS1
end ZC
end
section
-- ===== PART A: goes FIRST, ahead of the names: the tables' words, and 'selects' of the private methods out of them =====
/-- a private method of a class that the tables say can be made, by its rows of tables_1 -/
def lw_okq (q : MethodName × Nat) : Prop := (q.1.cls ≠ "java/lang/invoke/MethodHandle" ∧ q.1.cls ≠ "java/lang/invoke/VarHandle") ∧ Cond.instantiable q.1.cls q.2 ∈ tables_1 ∧ Cond.privateMethod q.1 ∈ tables_1 ∧ Cond.instanceMethod q.1 ∈ tables_1
theorem lw_p0 : lw_okq (⟨"java/lang/Throwable", "fillInStackTrace", "(I)Ljava/lang/Throwable;"⟩, 6) := ⟨⟨by decide +kernel, by decide +kernel⟩, List.mem_of_getElem? (i := 66) (by decide +kernel), List.mem_of_getElem? (i := 64) (by decide +kernel), List.mem_of_getElem? (i := 65) (by decide +kernel)⟩
theorem lw_p1 : lw_okq (⟨"Steamfield$Land", "flowThrough", "(LSteamfield$Face;)V"⟩, 15) := ⟨⟨by decide +kernel, by decide +kernel⟩, List.mem_of_getElem? (i := 160) (by decide +kernel), List.mem_of_getElem? (i := 158) (by decide +kernel), List.mem_of_getElem? (i := 159) (by decide +kernel)⟩
theorem lw_p2 : lw_okq (⟨"Steamfield$Land", "produce", "(LSteamfield$Well;)I"⟩, 15) := ⟨⟨by decide +kernel, by decide +kernel⟩, List.mem_of_getElem? (i := 160) (by decide +kernel), List.mem_of_getElem? (i := 195) (by decide +kernel), List.mem_of_getElem? (i := 196) (by decide +kernel)⟩
theorem lw_p3 : lw_okq (⟨"Steamfield$Land", "drive", "(I)V"⟩, 15) := ⟨⟨by decide +kernel, by decide +kernel⟩, List.mem_of_getElem? (i := 160) (by decide +kernel), List.mem_of_getElem? (i := 211) (by decide +kernel), List.mem_of_getElem? (i := 212) (by decide +kernel)⟩
theorem lw_p4 : lw_okq (⟨"Steamfield$Land", "warmTheTown", "()V"⟩, 15) := ⟨⟨by decide +kernel, by decide +kernel⟩, List.mem_of_getElem? (i := 160) (by decide +kernel), List.mem_of_getElem? (i := 215) (by decide +kernel), List.mem_of_getElem? (i := 216) (by decide +kernel)⟩
theorem lw_p5 : lw_okq (⟨"Steamfield$Land", "spill", "()V"⟩, 15) := ⟨⟨by decide +kernel, by decide +kernel⟩, List.mem_of_getElem? (i := 160) (by decide +kernel), List.mem_of_getElem? (i := 219) (by decide +kernel), List.mem_of_getElem? (i := 220) (by decide +kernel)⟩
theorem lw_p6 : lw_okq (⟨"Steamfield$Land", "drain", "(I)V"⟩, 15) := ⟨⟨by decide +kernel, by decide +kernel⟩, List.mem_of_getElem? (i := 160) (by decide +kernel), List.mem_of_getElem? (i := 223) (by decide +kernel), List.mem_of_getElem? (i := 224) (by decide +kernel)⟩
theorem lw_p7 : lw_okq (⟨"Steamfield$Land", "inject", "(LSteamfield$Well;I)I"⟩, 15) := ⟨⟨by decide +kernel, by decide +kernel⟩, List.mem_of_getElem? (i := 160) (by decide +kernel), List.mem_of_getElem? (i := 229) (by decide +kernel), List.mem_of_getElem? (i := 230) (by decide +kernel)⟩
theorem lw_p8 : lw_okq (⟨"Steamfield$Land", "letFlow", "(LSteamfield$Spring;)V"⟩, 15) := ⟨⟨by decide +kernel, by decide +kernel⟩, List.mem_of_getElem? (i := 160) (by decide +kernel), List.mem_of_getElem? (i := 233) (by decide +kernel), List.mem_of_getElem? (i := 234) (by decide +kernel)⟩
theorem lw_p9 : lw_okq (⟨"Steamfield$Land", "shareOut", "()V"⟩, 15) := ⟨⟨by decide +kernel, by decide +kernel⟩, List.mem_of_getElem? (i := 160) (by decide +kernel), List.mem_of_getElem? (i := 242) (by decide +kernel), List.mem_of_getElem? (i := 243) (by decide +kernel)⟩
theorem lw_p10 : lw_okq (⟨"Steamfield$Land", "payForLacks", "()V"⟩, 15) := ⟨⟨by decide +kernel, by decide +kernel⟩, List.mem_of_getElem? (i := 160) (by decide +kernel), List.mem_of_getElem? (i := 250) (by decide +kernel), List.mem_of_getElem? (i := 251) (by decide +kernel)⟩
def lw_privs_1 : List (MethodName × Nat) := [(⟨"java/lang/Throwable", "fillInStackTrace", "(I)Ljava/lang/Throwable;"⟩, 6), (⟨"Steamfield$Land", "flowThrough", "(LSteamfield$Face;)V"⟩, 15), (⟨"Steamfield$Land", "produce", "(LSteamfield$Well;)I"⟩, 15), (⟨"Steamfield$Land", "drive", "(I)V"⟩, 15), (⟨"Steamfield$Land", "warmTheTown", "()V"⟩, 15), (⟨"Steamfield$Land", "spill", "()V"⟩, 15), (⟨"Steamfield$Land", "drain", "(I)V"⟩, 15), (⟨"Steamfield$Land", "inject", "(LSteamfield$Well;I)I"⟩, 15), (⟨"Steamfield$Land", "letFlow", "(LSteamfield$Spring;)V"⟩, 15), (⟨"Steamfield$Land", "shareOut", "()V"⟩, 15), (⟨"Steamfield$Land", "payForLacks", "()V"⟩, 15)]
theorem lw_r1 : ∀ q ∈ lw_privs_1, lw_okq q := List.forall_mem_cons.mpr ⟨lw_p0, List.forall_mem_cons.mpr ⟨lw_p1, List.forall_mem_cons.mpr ⟨lw_p2, List.forall_mem_cons.mpr ⟨lw_p3, List.forall_mem_cons.mpr ⟨lw_p4, List.forall_mem_cons.mpr ⟨lw_p5, List.forall_mem_cons.mpr ⟨lw_p6, List.forall_mem_cons.mpr ⟨lw_p7, List.forall_mem_cons.mpr ⟨lw_p8, List.forall_mem_cons.mpr ⟨lw_p9, List.forall_mem_cons.mpr ⟨lw_p10, fun _ h => absurd h List.not_mem_nil⟩⟩⟩⟩⟩⟩⟩⟩⟩⟩⟩
def lw_privs : List (MethodName × Nat) := lw_privs_1
def lw_tbl : List Cond := k2_sels lw_privs ++ tables_1
theorem lw_privs_ok : ∀ q ∈ lw_privs, lw_okq q := lw_r1
/-- the streams that the claim lets the run draw from -/
abbrev lw_cs : List Choice := [Jvm.Choice.named "NaN.bits"]
theorem lw_bits : nanBits ∈ lw_cs := by first | decide | exact List.mem_cons_self | simp [lw_cs, nanBits]
/-! ===== BEGIN words of one list among another's, by their places ===== -/
theorem goodIn_r {big : List Cond} (ws : List Cond) (ps : List Nat) (hp : ws = ps.filterMap (fun i => big[i]?)) (h : ws.all goodWord = true) : GoodIn big ws := by
  intro w hw
  have h1 := List.all_eq_true.mp h w hw
  rw [hp] at hw
  obtain ⟨i, -, hi⟩ := List.mem_filterMap.mp hw
  have hm : w ∈ big := by first | exact List.mem_of_getElem? hi | exact List.getElem?_mem hi
  exact ⟨hm, good_of_word h1⟩
theorem goodIn_app {big a b : List Cond} (ha : GoodIn big a) (hb : GoodIn big b) : GoodIn big (a ++ b) := fun w h => (List.mem_append.mp h).elim (ha w) (hb w)
theorem goodIn_ca {big a b : List Cond} {c : Cond} (ha : GoodIn big (c :: a)) (hb : GoodIn big b) : GoodIn big (c :: (a ++ b)) := fun w h => (List.mem_cons.mp h).elim (fun e => ha w (List.mem_cons.mpr (Or.inl e))) (fun h => (List.mem_append.mp h).elim (fun h => ha w (List.mem_cons.mpr (Or.inr h))) (hb w))
theorem goodIn_sub {big ws : List Cond} (hm : ∀ w ∈ ws, w ∈ big) (h : ws.all goodWord = true) : GoodIn big ws := fun w hw => ⟨hm w hw, good_of_word (List.all_eq_true.mp h w hw)⟩
/-! ===== END ===== -/

/-! ===== BEGIN exceptions that leave a method, and their catching by the caller (launches without stack traces) ===== -/
section VXA
/-! The laws vx_back, vx_callV, vx_callS, vx_callSW, vx_throw0, vx_throwS follow proofs of the library, with one case more: JvmDerived/Free/Laws.lean (Back.of_free), Shelf42/LK1.lean (callV, callS), Shelf/KitTraced.lean (throwNew0V, throwNewS). -/
/-- where a method has thrown q: the class by its name, the cell, what was written, the world -/
def vx_T (XC : String → State → State → Prop) (st : State) (q : Addr) (t : State) (mc ms : Nat) (free : Addr → Prop) : Prop :=
  ∃ (E : String) (ce : Cell) (L : List Loc), XC E st t ∧ t.heap[q]? = some ce ∧ ce.vm = .none ∧ st.vm.findClass E = some ce.cls ∧ st.WarmedH t.vm ∧ st.sameButNew ({ t with vm := st.vm } : State) L mc ms ∧ ∀ z ∈ L, free z.base
def vx_Q (Qc : Array Value → State → Outcome → State → Prop) (XC : String → State → State → Prop) (mc ms : Nat) (free : Addr → Prop) : Array Value → State → Outcome → State → Prop := fun a st o t =>
  (Qc a st o t ∧ ∃ L, FrameEnd st o t L mc ms ∧ ∀ q ∈ L, free q.base) ∨ ∃ q, o = .threw q ∧ vx_T XC st q t mc ms free
/-- a callee that returns or throws -/
def vx_Met (l : Launch) (y : MethodName) (ws : List Cond) (rm : Room) (Pc : Array Value → State → Prop) (Qc : Array Value → State → Outcome → State → Prop) (XC : String → State → State → Prop) (mc ms : Nat) (free : Addr → Prop) : Prop :=
  MetFree l y (headSpec ws rm) Pc (fun _ _ _ _ _ => True) (vx_Q Qc XC mc ms free)
def vx_Post (XC : String → State → State → Prop) (mc ms : Nat) (free : Addr → Prop) : Pt → Array Value → Addr → Pt → Prop := fun A a q B =>
  ∃ (g : JFrame) (mk : MethodId) (t : State) (L : List Loc) (E : String) (ce : Cell), B.U.heap = t.heap ∧ B.U.vm = t.vm ∧ XC E (A.U.calling g mk a) t ∧ t.heap[q]? = some ce ∧ ce.vm = .none ∧ A.U.vm.findClass E = some ce.cls ∧ B.locs = A.locs ++ L ∧ (∀ z ∈ L, free z.base) ∧ B.cells = A.cells + mc ∧ B.slots = A.slots + ms
def vx_Back (l : Launch) (R : Room) (p : Program) (e : Env) (below : List Frame) (s : State) (sargs : Array Value) (y : MethodName) (len W9 : Nat)
    (Pre : Pt → Array Value → Prop) (Post : Pt → Array Value → Option Value → Pt → Prop) (PostX : Pt → Array Value → Addr → Pt → Prop) : Prop :=
  ∀ (m : MethodId) (meth : Method) (c : Code) (A : Pt) (g : JFrame) (ig : Instr) (mk : MethodId) (a : Array Value),
    Stand p l e R s m sargs below meth c A.U A.locs A.cells A.slots → g.method = m → g.locals.size = c.maxLocals → decode c.code g.pc = .ok (ig, len) →
    2 * g.monitorRoom + (g.stack.map fun v => v.category).sum ≤ W9 → A.U.methodNamed? y = some mk → Pre A a →
    (∃ (v : Option Value) (B : Pt), Stand p l e R s m sargs below meth c B.U B.locs B.cells B.slots ∧ Post A a v B ∧
      Steps p.tables e below (doInvoke e (A.U.setTop g) [] mk a).1 (B.U.setTop { g with pc := g.pc + len, stack := v.toList ++ g.stack })) ∨
    (∃ (q : Addr) (B : Pt), Stand p l e R s m sargs below meth c B.U B.locs B.cells B.slots ∧ PostX A a q B ∧
      Steps p.tables e below (doInvoke e (A.U.setTop g) [] mk a).1 ((B.U.setTop g).pushFrame (.throwing q)))
section Payer
variable {l : Launch} {R : Room} {p : Program} {e : Env} {below : List Frame} {s : State} {sargs : Array Value} {y : MethodName} {len W9 : Nat}
theorem vx_back {ws : List Cond} {rm : Room} {Pc : Array Value → State → Prop} {Qc : Array Value → State → Outcome → State → Prop} {XC : String → State → State → Prop} {mc ms : Nat} {free : Addr → Prop} {bytes : ByteArray} {maxL : Nat} {ret : Option FieldType}
    (hM : vx_Met l y ws rm Pc Qc XC mc ms free) (hblind : FrameBlind Pc) (hrc : rm.cells = mc) (hrs : rm.slots = ms)
    (hframes : rm.frames + 1 ≤ R.frames) (hlocals : W9 + (maxL + 11) + rm.locals ≤ R.locals)
    (hws : ∀ w ∈ ws, ∀ a' U, s.WarmedH U.vm → w.before a' U = true) (hcode : Cond.code y bytes maxL ret ∈ ws) (hinit : ∀ a' U, s.WarmedH U.vm → (Cond.initialized y.cls).before a' U = true) :
    vx_Back l R p e below s sargs y len W9 (PreOf R mc ms Pc) (PostOf Qc mc ms free) (vx_Post XC mc ms free) := by
  intro m meth c A g ig mk a X hg hsize hdg hW hn hp
  have h1 : (headSpec ws rm).pre.before a A.U = true := atoms_intro fun w hw => hws w hw _ _ X.warmed
  have h2 : (Cond.code y bytes maxL ret).before a A.U = true := hws _ hcode _ _ X.warmed
  have h3 : (Cond.initialized y.cls).before a A.U = true := hinit _ _ X.warmed
  have h4 : A.cells + (headSpec ws rm).room.cells ≤ R.cells := by rw [show (headSpec ws rm).room.cells = mc from hrc]; exact hp.1
  have h5 : A.slots + (headSpec ws rm).room.slots ≤ R.slots := by rw [show (headSpec ws rm).room.slots = ms from hrs]; exact hp.2.1
  have hPc : Pc a (A.U.calling g mk a) := hblind _ _ _ _ hp.2.2
  obtain ⟨U, Ls, c0, s0⟩ := A
  dsimp only [Pt.U, Pt.locs, Pt.cells, Pt.slots] at h1 h2 h3 h4 h5 X hn hPc ⊢
  obtain ⟨methY, cY, hmY, hcY, -, hlY, -, -, -, -⟩ := Cond.code_spec hn h2
  obtain ⟨kY, hkY, -⟩ := className_of_methodNamed hn
  have hinitY : kY.init = .initialized := Cond.initialized_spec (findClass_of_methodNamed hn) hkY h3
  have h : At U g.method c below := by rw [hg]; exact X.here
  have hlocals9 : W9 + (maxL + 11) + (headSpec ws rm).room.locals ≤ R.locals := hlocals
  have happ : (headSpec ws rm).appliesLoose y e.platform (U.calling g mk a) = true :=
    Spec.appliesLoose_calling (g := g) h hdg hn hkY hinitY
      (X.room_calling (g := g) (R' := (headSpec ws rm).room) hsize hmY hcY hframes (by rw [hlY]; omega) h4 h5) h1
  obtain ⟨mid, hmid⟩ := h.above
  have hfr : (U.setTop g).frames = (.java g :: mid) ++ below := by rw [State.frames_setTop' g h.top, hmid]; rfl
  obtain ⟨o, s₂, hsteps, -, hend, hq⟩ := Steps.callFree hM p X.admits X.cas X.clock (acts := []) hfr happ hPc trivial
  have hq' : vx_Q Qc XC mc ms free a (U.calling g mk a) o s₂ := hq
  rw [State.frames_setTop' g h.top] at hend
  obtain ⟨g₀, hg0⟩ := Option.isSome_iff_exists.mp h.top
  obtain ⟨r, hr⟩ := State.topJava?_eq_some.mp hg0
  have hr' : (({ U with heap := s₂.heap, slotsUsed := s₂.slotsUsed } : State).setVm s₂.vm).frames = .java g₀ :: r := hr
  rcases hq' with ⟨hqc, L, hfe, hL⟩ | ⟨q, rfl, E, ce, L, hx, hce, hcv, hcl, hW₂, hsm, hL⟩
  · obtain ⟨⟨v, rfl⟩, hW₂, e2, q2, q3, q4, q5, q6⟩ := id hfe
    have e3 : s₂ = ({ (U.calling g mk a).setFrames s₂.frames with heap := s₂.heap, slotsUsed := s₂.slotsUsed } : State).setVm s₂.vm := by
      have : s₂ = ({ s₂ with vm := (U.calling g mk a).vm } : State).setVm s₂.vm := rfl
      rw [e2] at this
      exact this
    obtain ⟨c₂, i₂, len₂, hc₂, hd₂, hf₂⟩ := hend
    have hW' : U.WarmedH s₂.vm := hW₂
    have hcc : c₂ = c := by
      have h1 : s₂.code? g.method = U.code? g.method := by
        rw [State.code?_eq, State.code?_eq, hW'.alike.method?]
      exact Option.some.inj (hc₂.symm.trans (h1.trans h.code))
    subst hcc
    have hlen : len₂ = len := by rw [hdg] at hd₂; cases hd₂; rfl
    subst hlen
    have hs₂ : s₂ = (({ U with heap := s₂.heap, slotsUsed := s₂.slotsUsed } : State).setVm s₂.vm).setTop { g with pc := g.pc + len₂, stack := v.toList ++ g.stack } := by
      refine e3.trans ?_
      rw [hf₂, State.calling_eq h.top, State.setFrames_setFrames, State.setTop_of_frames _ hr', hr]
      rfl
    have hsame : U.sameButNew ({ U with heap := s₂.heap, slotsUsed := s₂.slotsUsed } : State) L mc ms := by
      refine ⟨?_, q2, q3, q4, q5, q6⟩
      obtain ⟨t, ht, -⟩ := State.frames_cons hr
      show ({ U with heap := s₂.heap, slotsUsed := s₂.slotsUsed } : State) = { U.setFrames U.frames with heap := s₂.heap, slotsUsed := s₂.slotsUsed }
      rw [State.setFrames_self ht]
    subst hg
    refine Or.inl ⟨v, ⟨(({ U with heap := s₂.heap, slotsUsed := s₂.slotsUsed } : State).setVm s₂.vm), Ls ++ L, c0 + mc, s0 + ms⟩,
      ⟨X.admits, X.cas, X.clock, X.frames, X.room, X.hears, X.method, X.code, (X.here.setHeapUsed s₂.heap s₂.slotsUsed).setVm hW'.alike, X.tail, State.WarmedH.trans X.warmed hW', X.limits, X.bytes, X.same.trans (hsame.setVm s.vm)⟩,
      ⟨g, mk, s₂, L, rfl, rfl, hqc, rfl, hL, rfl, rfl⟩, ?_⟩
    show Steps p.tables e below _ ((({ U with heap := s₂.heap, slotsUsed := s₂.slotsUsed } : State).setVm s₂.vm).setTop { g with pc := g.pc + len₂, stack := v.toList ++ g.stack })
    rw [← hs₂]
    exact hsteps
  · obtain ⟨e2, q2, q3, q4, q5, q6⟩ := id hsm
    have e3 : s₂ = ({ (U.calling g mk a).setFrames s₂.frames with heap := s₂.heap, slotsUsed := s₂.slotsUsed } : State).setVm s₂.vm := by
      have : s₂ = ({ s₂ with vm := (U.calling g mk a).vm } : State).setVm s₂.vm := rfl
      rw [e2] at this
      exact this
    have hf₂ : s₂.frames = .throwing q :: .java g :: U.frames.tail := hend
    have hW' : U.WarmedH s₂.vm := hW₂
    have hs₂ : s₂ = ((({ U with heap := s₂.heap, slotsUsed := s₂.slotsUsed } : State).setVm s₂.vm).setTop g).pushFrame (.throwing q) := by
      refine e3.trans ?_
      rw [hf₂, State.calling_eq h.top, State.setFrames_setFrames, State.pushFrame, State.frames_setTop _ hr', State.setTop_of_frames _ hr', State.setFrames_setFrames, hr]
      rfl
    have hsame : U.sameButNew ({ U with heap := s₂.heap, slotsUsed := s₂.slotsUsed } : State) L mc ms := by
      refine ⟨?_, q2, q3, q4, q5, q6⟩
      obtain ⟨t, ht, -⟩ := State.frames_cons hr
      show ({ U with heap := s₂.heap, slotsUsed := s₂.slotsUsed } : State) = { U.setFrames U.frames with heap := s₂.heap, slotsUsed := s₂.slotsUsed }
      rw [State.setFrames_self ht]
    subst hg
    refine Or.inr ⟨q, ⟨(({ U with heap := s₂.heap, slotsUsed := s₂.slotsUsed } : State).setVm s₂.vm), Ls ++ L, c0 + mc, s0 + ms⟩,
      ⟨X.admits, X.cas, X.clock, X.frames, X.room, X.hears, X.method, X.code, (X.here.setHeapUsed s₂.heap s₂.slotsUsed).setVm hW'.alike, X.tail, State.WarmedH.trans X.warmed hW', X.limits, X.bytes, X.same.trans (hsame.setVm s.vm)⟩,
      ⟨g, mk, s₂, L, E, ce, rfl, rfl, hx, hce, hcv, hcl, rfl, hL, rfl, rfl⟩, ?_⟩
    show Steps p.tables e below _ (((({ U with heap := s₂.heap, slotsUsed := s₂.slotsUsed } : State).setVm s₂.vm).setTop g).pushFrame (.throwing q))
    rw [← hs₂]
    exact hsteps
end Payer
section Calls
variable {p : Program} {l : Launch} {e : Env} {R : Room} {s : State} {m : MethodId} {args : Array Value} {below : List Frame} {meth : Method} {c : Code} {T : State} {locs : List Loc} {cells slots : Nat}
theorem vx_callV (X : Stand p l e R s m args below meth c T locs cells slots) (hexec : p.tables.exec = Jvm.exec) {own C : String} {index : Nat} {y : MethodName} {bytes : ByteArray} {maxL : Nat} {ret : Option FieldType}
    (hown : s.vm.findClass own = some m.cls) (hlink : (Cond.methodLink own index y).before args s = true) (hinst : (Cond.instanceMethod y).before args s = true) (hsel : (Cond.selects C y y).before args s = true)
    (hcode : (Cond.code y bytes maxL ret).before args s = true) (hy : y.cls ≠ "java/lang/invoke/MethodHandle" ∧ y.cls ≠ "java/lang/invoke/VarHandle")
    {W9 : Nat} {Pre : Pt → Array Value → Prop} {Post : Pt → Array Value → Option Value → Pt → Prop} {PostX : Pt → Array Value → Addr → Pt → Prop} (hK : vx_Back l R p e below s args y 3 W9 Pre Post PostX)
    {b : Addr} {cellB : Cell} (hcell : T.heap[b]? = some cellB) (hobj : cellB.vm.isStatics = false) (hcls : s.vm.findClass C = some cellB.cls)
    {g : JFrame} (hg : g.method = m) (hsize : g.locals.size = c.maxLocals) {argsL rest : List Value} (hlen : ∀ sig, parseMethodDescriptor y.desc = some sig → argsL.length = sig.parameters.length)
    (hstack : g.stack = argsL.reverse ++ .ref b :: rest) (hW : 2 * g.monitorRoom + (rest.map fun v => v.category).sum ≤ W9) (hdg : decode c.code g.pc = .ok (.invokevirtual index, 3))
    (hpre : ∀ vm₁, s.WarmedH vm₁ → Pre ⟨T.setVm vm₁, locs, cells, slots⟩ (Value.ref b :: argsL).toArray) :
    (∃ (v : Option Value) (vm₁ : Vm) (B : Pt), s.WarmedH vm₁ ∧ Stand p l e R s m args below meth c B.U B.locs B.cells B.slots ∧ Post ⟨T.setVm vm₁, locs, cells, slots⟩ (Value.ref b :: argsL).toArray v B ∧
      ∀ target, Steps p.tables e below (B.U.setTop { g with pc := g.pc + 3, stack := v.toList ++ rest }) target → Steps p.tables e below (T.setTop g) target) ∨
    (∃ (q : Addr) (vm₁ : Vm) (B : Pt), s.WarmedH vm₁ ∧ Stand p l e R s m args below meth c B.U B.locs B.cells B.slots ∧ PostX ⟨T.setVm vm₁, locs, cells, slots⟩ (Value.ref b :: argsL).toArray q B ∧
      Steps p.tables e below (T.setTop g) ((B.U.setTop { g with stack := rest }).pushFrame (.throwing q))) := by
  obtain ⟨mk, methM, hnamed, hmethM, hstM, habM⟩ := Cond.instanceMethod_spec hinst
  obtain ⟨methM', cM, hmethM', -, -, -, -, -, -, hsigM⟩ := Cond.code_spec hnamed hcode
  cases hmethM.symm.trans hmethM'
  obtain ⟨c2, r2, m2, q1, q2, q3, q4, kP, hkP, hkPi⟩ := Cond.selects_spec hsel
  cases hcls.symm.trans q1
  cases (State.methodFound?_of_named hnamed hy).symm.trans q2
  cases hnamed.symm.trans q3
  have hselP : selectMethod e.platform s.vm cellB.cls mk = .method mk := by rw [Launch.admits_selectMethod X.admits]; exact q4
  obtain ⟨vm₁, X₁, hstep₁⟩ := X.invokevirtual hexec hown hlink hnamed hmethM hstM hkP hkPi hy (a := b) (cell := cellB) hcell
    (fun z h => by rw [h] at hobj; cases hobj) hselP hmethM habM hkP hkPi (g := g) hg (argsL := argsL) (rest := rest) (hlen _ hsigM) hstack hdg
  rcases hK m meth c ⟨T.setVm vm₁, locs, cells, slots⟩ { g with stack := rest } (.invokevirtual index) mk (Value.ref b :: argsL).toArray X₁ hg hsize hdg hW (X₁.named hnamed) (hpre vm₁ X₁.warmed) with ⟨v, B, X', hpost, hsteps⟩ | ⟨q, B, X', hpost, hsteps⟩
  · exact Or.inl ⟨v, vm₁, B, X₁.warmed, X', hpost, fun target h => hstep₁ _ fun acts => by rw [doInvoke_state]; exact hsteps.trans h⟩
  · exact Or.inr ⟨q, vm₁, B, X₁.warmed, X', hpost, hstep₁ _ fun acts => by rw [doInvoke_state]; exact hsteps⟩
theorem vx_callS (X : Stand p l e R s m args below meth c T locs cells slots) (hexec : p.tables.exec = Jvm.exec) {own : String} {index : Nat} {y : MethodName} {bytes : ByteArray} {maxL : Nat} {ret : Option FieldType}
    (hown : s.vm.findClass own = some m.cls) (hlink : (Cond.methodLink own index y).before args s = true) (hstat : (Cond.static y).before args s = true) (hinit : (Cond.initialized y.cls).before args s = true)
    (hcode : (Cond.code y bytes maxL ret).before args s = true) (hy : y.cls ≠ "java/lang/invoke/MethodHandle" ∧ y.cls ≠ "java/lang/invoke/VarHandle")
    {W9 : Nat} {Pre : Pt → Array Value → Prop} {Post : Pt → Array Value → Option Value → Pt → Prop} {PostX : Pt → Array Value → Addr → Pt → Prop} (hK : vx_Back l R p e below s args y 3 W9 Pre Post PostX)
    {g : JFrame} (hg : g.method = m) (hsize : g.locals.size = c.maxLocals) {argsL rest : List Value} (hlen : ∀ sig, parseMethodDescriptor y.desc = some sig → argsL.length = sig.parameters.length)
    (hstack : g.stack = argsL.reverse ++ rest) (hW : 2 * g.monitorRoom + (rest.map fun v => v.category).sum ≤ W9) (hdg : decode c.code g.pc = .ok (.invokestatic index, 3))
    (hpre : ∀ vm₁, s.WarmedH vm₁ → Pre ⟨T.setVm vm₁, locs, cells, slots⟩ argsL.toArray) :
    (∃ (v : Option Value) (vm₁ : Vm) (B : Pt), s.WarmedH vm₁ ∧ Stand p l e R s m args below meth c B.U B.locs B.cells B.slots ∧ Post ⟨T.setVm vm₁, locs, cells, slots⟩ argsL.toArray v B ∧
      ∀ target, Steps p.tables e below (B.U.setTop { g with pc := g.pc + 3, stack := v.toList ++ rest }) target → Steps p.tables e below (T.setTop g) target) ∨
    (∃ (q : Addr) (vm₁ : Vm) (B : Pt), s.WarmedH vm₁ ∧ Stand p l e R s m args below meth c B.U B.locs B.cells B.slots ∧ PostX ⟨T.setVm vm₁, locs, cells, slots⟩ argsL.toArray q B ∧
      Steps p.tables e below (T.setTop g) ((B.U.setTop { g with stack := rest }).pushFrame (.throwing q))) := by
  obtain ⟨mk, hnamed⟩ := Cond.code_named hcode
  obtain ⟨methM, cM, hmethM, -, -, -, -, -, -, hsigM⟩ := Cond.code_spec hnamed hcode
  have hstatic : methM.isStatic = true := Cond.static_spec hnamed hmethM hstat
  obtain ⟨kP, hkP, -⟩ := className_of_methodNamed hnamed
  have hinitP : kP.init = .initialized := Cond.initialized_spec (findClass_of_methodNamed hnamed) hkP hinit
  obtain ⟨vm₁, X₁, hstep₁⟩ := X.invokestatic hexec hown hlink hnamed hmethM hstatic hkP hinitP hy (g := g) hg (argsL := argsL) (rest := rest) (hlen _ hsigM) hstack hdg
  rcases hK m meth c ⟨T.setVm vm₁, locs, cells, slots⟩ { g with stack := rest } (.invokestatic index) mk argsL.toArray X₁ hg hsize hdg hW (X₁.named hnamed) (hpre vm₁ X₁.warmed) with ⟨v, B, X', hpost, hsteps⟩ | ⟨q, B, X', hpost, hsteps⟩
  · exact Or.inl ⟨v, vm₁, B, X₁.warmed, X', hpost, fun target h => hstep₁ _ fun acts => by rw [doInvoke_state]; exact hsteps.trans h⟩
  · exact Or.inr ⟨q, vm₁, B, X₁.warmed, X', hpost, hstep₁ _ fun acts => by rw [doInvoke_state]; exact hsteps⟩
end Calls
theorem vx_cls {s : State} {T : State} {vm₁ : Vm} {E : String} {k : ClassId} (hW : s.WarmedH vm₁) (h : (T.setVm vm₁).vm.findClass E = some k) : s.vm.findClass E = some k := by
  have h1 : vm₁.findClass E = some k := h
  rw [hW.alike.findClass] at h1
  exact h1
/-- the method's frame g, with q thrown over it -/
def vx_W (p : Program) (l : Launch) (e : Env) (R : Room) (s : State) (m : MethodId) (args : Array Value) (below : List Frame) (meth : Method) (c : Code) (H : Heap) (locs : List Loc) (cells slots : Nat) (Q : State → Prop) (g : JFrame) (q : Addr) : Prop :=
  ∀ T : State, T.heap = H → Stand p l e R s m args below meth c T locs cells slots → ∃ t, Steps p.tables e below ((T.setTop g).pushFrame (.throwing q)) t ∧ Q t
def vx_Run (p : Program) (l : Launch) (e : Env) (R : Room) (s : State) (m : MethodId) (args : Array Value) (below : List Frame) (meth : Method) (c : Code) (H : Heap) (locs : List Loc) (cells slots mc ms : Nat) (g : JFrame) (rest : List Value) (Qa : State → Outcome → State → Prop) (XC : String → State → State → Prop) (free : Addr → Prop) : Prop :=
  ∀ T : State, T.heap = H → Stand p l e R s m args below meth c T locs cells slots →
    (∃ (v : Option Value) (st₀ t T' : State) (L : List Loc), st₀.heap = H ∧ Stand p l e R s m args below meth c T' (locs ++ L) (cells + mc) (slots + ms) ∧ (∀ q ∈ L, free q.base) ∧ T'.heap = t.heap ∧ T'.vm = t.vm ∧ Qa st₀ (.returned v) t ∧
      Goes p e below T g T' { g with pc := g.pc + 3, stack := v.toList ++ rest }) ∨
    (∃ (q : Addr) (st₀ t T' : State) (L : List Loc) (E : String) (ce : Cell), st₀.heap = H ∧ Stand p l e R s m args below meth c T' (locs ++ L) (cells + mc) (slots + ms) ∧ (∀ z ∈ L, free z.base) ∧ T'.heap = t.heap ∧ T'.vm = t.vm ∧ XC E st₀ t ∧ t.heap[q]? = some ce ∧ ce.vm = .none ∧ s.vm.findClass E = some ce.cls ∧
      Steps p.tables e below (T.setTop g) ((T'.setTop { g with stack := rest }).pushFrame (.throwing q)))
def vx_X {S : Type} (px : S → Prop) (B : String → S → State → Prop) (A : Nat → Prop) : String → State → State → Prop := fun E st t => ∃ u : S, px u ∧ B E u t ∧ va_F A st t
section Runs
variable {p : Program} {l : Launch} {e : Env} {R : Room} {s : State} {m : MethodId} {args : Array Value} {below : List Frame} {meth : Method} {c : Code} {H : Heap} {locs : List Loc} {cells slots : Nat}
variable {y : MethodName} {bytes cc : ByteArray} {maxL nL mc ms n index : Nat} {ret : Option FieldType} {ws : List Cond} {rm : Room} {Pc : Array Value → State → Prop} {Qc : Array Value → State → Outcome → State → Prop} {XC : String → State → State → Prop} {free : Addr → Prop} {Ts : List Cond} {own C : String} {b : Addr} {As rest : List Value} {g : JFrame}
theorem vx_callBack (cb : CallB R s args own index y bytes maxL ret ws rm mc ms n) (hM : vx_Met l y ws rm Pc Qc XC mc ms free) (hbl : FrameBlind Pc) : vx_Back l R p e below s args y 3 8 (PreOf R mc ms Pc) (PostOf Qc mc ms free) (vx_Post XC mc ms free) := by
  obtain ⟨hrc, hrs, hfr, hlo, hws, hcw, -, hini, -⟩ := cb
  exact vx_back (bytes := bytes) (maxL := maxL) (ret := ret) hM hbl hrc hrs hfr hlo hws hcw (fun a' U hW => word_at hW (Or.inl (by first | rfl | simp [Cond.onTables, Cond.keeps, Cond.steady])) hini)
theorem vx_runV (S : CallFix p m c cc nL s args Ts own) (hM : vx_Met l y ws rm Pc Qc XC mc ms free) (cw : CallW R s args own C index y bytes maxL ret ws rm mc ms n) (hp : PreV s H C b Pc As)
    (hg : g.method = m) (hn : As.length = n) (hsize : g.locals.size = nL) (hstack : g.stack = As.reverse ++ .ref b :: rest) (hW : 2 * g.monitorRoom + (rest.map fun v => v.category).sum ≤ 8) (hdg : decode cc g.pc = .ok (.invokevirtual index, 3)) (hf : cells + mc ≤ R.cells ∧ slots + ms ≤ R.slots) :
    vx_Run p l e R s m args below meth c H locs cells slots mc ms g rest (Qc (Value.ref b :: As).toArray) XC free := by
  have hK : vx_Back l R p e below s args y 3 8 (PreOf R mc ms Pc) (PostOf Qc mc ms free) (vx_Post XC mc ms free) := vx_callBack cw.1 hM hp.1
  obtain ⟨⟨-, -, -, -, -, -, hcode, -, hy, hlen, hl⟩, hin, hse⟩ := cw
  obtain ⟨hx, hb, hml, ho, -⟩ := S
  obtain ⟨-, ⟨cellB, hcB, hoB, hclB⟩, hPc⟩ := hp
  intro T hT X
  rcases vx_callV X hx (C := C) (bytes := bytes) (maxL := maxL) (ret := ret) ho hl hin hse hcode hy hK (by rw [hT]; exact hcB) hoB hclB hg (hsize.trans hml.symm) (argsL := As) (rest := rest) (fun sig h => hn.trans (hlen sig h)) hstack hW (by rw [hb]; exact hdg)
    (fun vm₁ hW₁ => ⟨hf.1, hf.2, hPc (T.setVm vm₁) hT hW₁⟩) with ⟨v, vm₁, ⟨U', l2, c2, s2⟩, hW₁, X', ⟨g', mk, t, L, e1, e2, hq, h1, hL, h2, h3⟩, st⟩ | ⟨q, vm₁, ⟨U', l2, c2, s2⟩, hW₁, X', ⟨g', mk, t, L, E, ce, e1, e2, hq, hce, hcv, hcl, h1, hL, h2, h3⟩, st⟩
  · dsimp only [Pt.U, Pt.locs, Pt.cells, Pt.slots] at X' e1 e2 h1 h2 h3 st
    subst h1; subst h2; subst h3
    exact Or.inl ⟨v, (T.setVm vm₁).calling g' mk (Value.ref b :: As).toArray, t, U', L, hT, X', hL, e1, e2, hq, st⟩
  · dsimp only [Pt.U, Pt.locs, Pt.cells, Pt.slots] at X' e1 e2 h1 h2 h3 st hcl
    subst h1; subst h2; subst h3
    exact Or.inr ⟨q, (T.setVm vm₁).calling g' mk (Value.ref b :: As).toArray, t, U', L, E, ce, hT, X', hL, e1, e2, hq, hce, hcv, vx_cls hW₁ hcl, st⟩
theorem vx_runS (S : CallFix p m c cc nL s args Ts own) (hM : vx_Met l y ws rm Pc Qc XC mc ms free) (cw : CallB R s args own index y bytes maxL ret ws rm mc ms n ∧ (Cond.static y).before args s = true) (hp : PreS s H Pc As)
    (hg : g.method = m) (hn : As.length = n) (hsize : g.locals.size = nL) (hstack : g.stack = As.reverse ++ rest) (hW : 2 * g.monitorRoom + (rest.map fun v => v.category).sum ≤ 8) (hdg : decode cc g.pc = .ok (.invokestatic index, 3)) (hf : cells + mc ≤ R.cells ∧ slots + ms ≤ R.slots) :
    vx_Run p l e R s m args below meth c H locs cells slots mc ms g rest (Qc As.toArray) XC free := by
  have hK : vx_Back l R p e below s args y 3 8 (PreOf R mc ms Pc) (PostOf Qc mc ms free) (vx_Post XC mc ms free) := vx_callBack cw.1 hM hp.1
  obtain ⟨⟨-, -, -, -, -, -, hcode, hini, hy, hlen, hl⟩, hstt⟩ := cw
  obtain ⟨hx, hb, hml, ho, -⟩ := S
  intro T hT X
  rcases vx_callS X hx (bytes := bytes) (maxL := maxL) (ret := ret) ho hl hstt hini hcode hy hK hg (hsize.trans hml.symm) (argsL := As) (rest := rest) (fun sig h => hn.trans (hlen sig h)) hstack hW (by rw [hb]; exact hdg)
    (fun vm₁ hW₁ => ⟨hf.1, hf.2, hp.2 (T.setVm vm₁) hT hW₁⟩) with ⟨v, vm₁, ⟨U', l2, c2, s2⟩, hW₁, X', ⟨g', mk, t, L, e1, e2, hq, h1, hL, h2, h3⟩, st⟩ | ⟨q, vm₁, ⟨U', l2, c2, s2⟩, hW₁, X', ⟨g', mk, t, L, E, ce, e1, e2, hq, hce, hcv, hcl, h1, hL, h2, h3⟩, st⟩
  · dsimp only [Pt.U, Pt.locs, Pt.cells, Pt.slots] at X' e1 e2 h1 h2 h3 st
    subst h1; subst h2; subst h3
    exact Or.inl ⟨v, (T.setVm vm₁).calling g' mk As.toArray, t, U', L, hT, X', hL, e1, e2, hq, st⟩
  · dsimp only [Pt.U, Pt.locs, Pt.cells, Pt.slots] at X' e1 e2 h1 h2 h3 st hcl
    subst h1; subst h2; subst h3
    exact Or.inr ⟨q, (T.setVm vm₁).calling g' mk As.toArray, t, U', L, E, ce, hT, X', hL, e1, e2, hq, hce, hcv, vx_cls hW₁ hcl, st⟩
end Runs
section Rows
variable {p : Program} {l : Launch} {e : Env} {R : Room} {s : State} {m : MethodId} {args : Array Value} {below : List Frame} {meth : Method} {c : Code} {H : Heap} {locs : List Loc} {cells slots : Nat} {Q : State → Prop}
variable {mc ms : Nat} {free : Addr → Prop} {A0 A1 : Nat → Prop} {H0 : Heap} {a : Array Value} {pc : Nat} {ls : Array Slot} {st0 rest : List Value}
theorem vx_keep {st₀ t T' : State} {L : List Loc} (h0 : st₀.heap = H) (e1 : T'.heap = t.heap) (hS : va_S A0 H0 H locs) (hA : ∀ q, q < H.size → A1 q → A0 q) (hf : ∀ q, free q → A0 q) (hL : ∀ q ∈ L, free q.base) (hF : va_F A1 st₀ t) :
    H.size ≤ T'.heap.size ∧ (∀ q : Nat, q < H.size → ¬ A1 q → T'.heap[q]? = H[q]?) ∧ va_S A0 H0 T'.heap (locs ++ L) := by
  obtain ⟨hz, hk⟩ := hF
  rw [h0] at hz hk
  exact ⟨by rw [e1]; exact hz, fun q h1 h2 => by rw [e1]; exact hk q h1 h2,
    ⟨Nat.le_trans hS.1 (by rw [e1]; exact hz), fun q h1 h2 => by rw [e1, hk q (Nat.lt_of_lt_of_le h1 hS.1) (fun z => h2 (hA q (Nat.lt_of_lt_of_le h1 hS.1) z))]; exact hS.2.1 q h1 h2, fun q hq => by
      rcases List.mem_append.mp hq with h | h
      · exact hS.2.2 q h
      · exact hf _ (hL q h)⟩⟩
theorem vx_calli {S SX : Type} {post : Int32 → S → Prop} {px : SX → Prop} {B : S → State → Prop} {BX : String → SX → State → Prop} {AX : Nat → Prop} (hr : vx_Run p l e R s m args below meth c H locs cells slots mc ms (F0 m pc ls st0) rest (va_Qi post B A1 a) (vx_X px BX AX) free) (hS : va_S A0 H0 H locs) (hA : ∀ q, q < H.size → A1 q → A0 q) (hf : ∀ q, free q → A0 q) (hAX : ∀ q, q < H.size → AX q → A0 q)
    (kx : ∀ (E : String) (ce : Cell) (q9 : Addr) (u : SX) (t : State) (H1 : Heap) (locs1 : List Loc), t.heap = H1 → s.vm.Alike t.vm → px u → BX E u t → H.size ≤ H1.size → (∀ q : Nat, q < H.size → ¬ AX q → H1[q]? = H[q]?) → va_S A0 H0 H1 locs1 → H1[q9]? = some ce → ce.vm = .none → s.vm.findClass E = some ce.cls → vx_W p l e R s m args below meth c H1 locs1 (cells + mc) (slots + ms) Q (F0 m pc ls rest) q9)
    (kk : ∀ (r : Int32) (u : S) (t : State) (H1 : Heap) (locs1 : List Loc), t.heap = H1 → s.vm.Alike t.vm → post r u → B u t → H.size ≤ H1.size → (∀ q : Nat, q < H.size → ¬ A1 q → H1[q]? = H[q]?) → va_S A0 H0 H1 locs1 → W p l e R s m args below meth c H1 locs1 (cells + mc) (slots + ms) Q (F0 m (pc + 3) ls (.int r :: rest))) : W p l e R s m args below meth c H locs cells slots Q (F0 m pc ls st0) := by
  intro T hT X
  rcases hr T hT X with ⟨v, st₀, t, T', L, h0, X', hL, e1, e2, ⟨⟨r, u, hv, hp, hb⟩, hF⟩, st⟩ | ⟨q, st₀, t, T', L, E, ce, h0, X', hL, e1, e2, ⟨u, hp, hb, hF⟩, hce, hcv, hcl, st⟩
  · cases hv
    obtain ⟨k1, k2, k3⟩ := vx_keep h0 e1 hS hA hf hL hF
    obtain ⟨t2, a1, b1⟩ := kk r u t T'.heap (locs ++ L) e1.symm (by rw [← e2]; exact X'.warmed.alike) hp hb k1 k2 k3 T' rfl X'
    exact ⟨t2, st t2 a1, b1⟩
  · obtain ⟨k1, k2, k3⟩ := vx_keep h0 e1 hS hAX hf hL hF
    obtain ⟨t2, a1, b1⟩ := kx E ce q u t T'.heap (locs ++ L) e1.symm (by rw [← e2]; exact X'.warmed.alike) hp hb k1 k2 k3 (by rw [e1]; exact hce) hcv hcl T' rfl X'
    exact ⟨t2, st.trans a1, b1⟩
theorem vx_calll {S SX : Type} {post : Int64 → S → Prop} {px : SX → Prop} {B : S → State → Prop} {BX : String → SX → State → Prop} {AX : Nat → Prop} (hr : vx_Run p l e R s m args below meth c H locs cells slots mc ms (F0 m pc ls st0) rest (va_Ql post B A1 a) (vx_X px BX AX) free) (hS : va_S A0 H0 H locs) (hA : ∀ q, q < H.size → A1 q → A0 q) (hf : ∀ q, free q → A0 q) (hAX : ∀ q, q < H.size → AX q → A0 q)
    (kx : ∀ (E : String) (ce : Cell) (q9 : Addr) (u : SX) (t : State) (H1 : Heap) (locs1 : List Loc), t.heap = H1 → s.vm.Alike t.vm → px u → BX E u t → H.size ≤ H1.size → (∀ q : Nat, q < H.size → ¬ AX q → H1[q]? = H[q]?) → va_S A0 H0 H1 locs1 → H1[q9]? = some ce → ce.vm = .none → s.vm.findClass E = some ce.cls → vx_W p l e R s m args below meth c H1 locs1 (cells + mc) (slots + ms) Q (F0 m pc ls rest) q9)
    (kk : ∀ (r : Int64) (u : S) (t : State) (H1 : Heap) (locs1 : List Loc), t.heap = H1 → s.vm.Alike t.vm → post r u → B u t → H.size ≤ H1.size → (∀ q : Nat, q < H.size → ¬ A1 q → H1[q]? = H[q]?) → va_S A0 H0 H1 locs1 → W p l e R s m args below meth c H1 locs1 (cells + mc) (slots + ms) Q (F0 m (pc + 3) ls (.long r :: rest))) : W p l e R s m args below meth c H locs cells slots Q (F0 m pc ls st0) := by
  intro T hT X
  rcases hr T hT X with ⟨v, st₀, t, T', L, h0, X', hL, e1, e2, ⟨⟨r, u, hv, hp, hb⟩, hF⟩, st⟩ | ⟨q, st₀, t, T', L, E, ce, h0, X', hL, e1, e2, ⟨u, hp, hb, hF⟩, hce, hcv, hcl, st⟩
  · cases hv
    obtain ⟨k1, k2, k3⟩ := vx_keep h0 e1 hS hA hf hL hF
    obtain ⟨t2, a1, b1⟩ := kk r u t T'.heap (locs ++ L) e1.symm (by rw [← e2]; exact X'.warmed.alike) hp hb k1 k2 k3 T' rfl X'
    exact ⟨t2, st t2 a1, b1⟩
  · obtain ⟨k1, k2, k3⟩ := vx_keep h0 e1 hS hAX hf hL hF
    obtain ⟨t2, a1, b1⟩ := kx E ce q u t T'.heap (locs ++ L) e1.symm (by rw [← e2]; exact X'.warmed.alike) hp hb k1 k2 k3 (by rw [e1]; exact hce) hcv hcl T' rfl X'
    exact ⟨t2, st.trans a1, b1⟩
theorem vx_callf {S SX : Type} {post : UInt32 → S → Prop} {px : SX → Prop} {B : S → State → Prop} {BX : String → SX → State → Prop} {AX : Nat → Prop} (hr : vx_Run p l e R s m args below meth c H locs cells slots mc ms (F0 m pc ls st0) rest (va_Qf post B A1 a) (vx_X px BX AX) free) (hS : va_S A0 H0 H locs) (hA : ∀ q, q < H.size → A1 q → A0 q) (hf : ∀ q, free q → A0 q) (hAX : ∀ q, q < H.size → AX q → A0 q)
    (kx : ∀ (E : String) (ce : Cell) (q9 : Addr) (u : SX) (t : State) (H1 : Heap) (locs1 : List Loc), t.heap = H1 → s.vm.Alike t.vm → px u → BX E u t → H.size ≤ H1.size → (∀ q : Nat, q < H.size → ¬ AX q → H1[q]? = H[q]?) → va_S A0 H0 H1 locs1 → H1[q9]? = some ce → ce.vm = .none → s.vm.findClass E = some ce.cls → vx_W p l e R s m args below meth c H1 locs1 (cells + mc) (slots + ms) Q (F0 m pc ls rest) q9)
    (kk : ∀ (r : UInt32) (u : S) (t : State) (H1 : Heap) (locs1 : List Loc), t.heap = H1 → s.vm.Alike t.vm → post r u → B u t → H.size ≤ H1.size → (∀ q : Nat, q < H.size → ¬ A1 q → H1[q]? = H[q]?) → va_S A0 H0 H1 locs1 → W p l e R s m args below meth c H1 locs1 (cells + mc) (slots + ms) Q (F0 m (pc + 3) ls (.float r :: rest))) : W p l e R s m args below meth c H locs cells slots Q (F0 m pc ls st0) := by
  intro T hT X
  rcases hr T hT X with ⟨v, st₀, t, T', L, h0, X', hL, e1, e2, ⟨⟨r, u, hv, hp, hb⟩, hF⟩, st⟩ | ⟨q, st₀, t, T', L, E, ce, h0, X', hL, e1, e2, ⟨u, hp, hb, hF⟩, hce, hcv, hcl, st⟩
  · cases hv
    obtain ⟨k1, k2, k3⟩ := vx_keep h0 e1 hS hA hf hL hF
    obtain ⟨t2, a1, b1⟩ := kk r u t T'.heap (locs ++ L) e1.symm (by rw [← e2]; exact X'.warmed.alike) hp hb k1 k2 k3 T' rfl X'
    exact ⟨t2, st t2 a1, b1⟩
  · obtain ⟨k1, k2, k3⟩ := vx_keep h0 e1 hS hAX hf hL hF
    obtain ⟨t2, a1, b1⟩ := kx E ce q u t T'.heap (locs ++ L) e1.symm (by rw [← e2]; exact X'.warmed.alike) hp hb k1 k2 k3 (by rw [e1]; exact hce) hcv hcl T' rfl X'
    exact ⟨t2, st.trans a1, b1⟩
theorem vx_calld {S SX : Type} {post : UInt64 → S → Prop} {px : SX → Prop} {B : S → State → Prop} {BX : String → SX → State → Prop} {AX : Nat → Prop} (hr : vx_Run p l e R s m args below meth c H locs cells slots mc ms (F0 m pc ls st0) rest (va_Qd post B A1 a) (vx_X px BX AX) free) (hS : va_S A0 H0 H locs) (hA : ∀ q, q < H.size → A1 q → A0 q) (hf : ∀ q, free q → A0 q) (hAX : ∀ q, q < H.size → AX q → A0 q)
    (kx : ∀ (E : String) (ce : Cell) (q9 : Addr) (u : SX) (t : State) (H1 : Heap) (locs1 : List Loc), t.heap = H1 → s.vm.Alike t.vm → px u → BX E u t → H.size ≤ H1.size → (∀ q : Nat, q < H.size → ¬ AX q → H1[q]? = H[q]?) → va_S A0 H0 H1 locs1 → H1[q9]? = some ce → ce.vm = .none → s.vm.findClass E = some ce.cls → vx_W p l e R s m args below meth c H1 locs1 (cells + mc) (slots + ms) Q (F0 m pc ls rest) q9)
    (kk : ∀ (r : UInt64) (u : S) (t : State) (H1 : Heap) (locs1 : List Loc), t.heap = H1 → s.vm.Alike t.vm → post r u → B u t → H.size ≤ H1.size → (∀ q : Nat, q < H.size → ¬ A1 q → H1[q]? = H[q]?) → va_S A0 H0 H1 locs1 → W p l e R s m args below meth c H1 locs1 (cells + mc) (slots + ms) Q (F0 m (pc + 3) ls (.double r :: rest))) : W p l e R s m args below meth c H locs cells slots Q (F0 m pc ls st0) := by
  intro T hT X
  rcases hr T hT X with ⟨v, st₀, t, T', L, h0, X', hL, e1, e2, ⟨⟨r, u, hv, hp, hb⟩, hF⟩, st⟩ | ⟨q, st₀, t, T', L, E, ce, h0, X', hL, e1, e2, ⟨u, hp, hb, hF⟩, hce, hcv, hcl, st⟩
  · cases hv
    obtain ⟨k1, k2, k3⟩ := vx_keep h0 e1 hS hA hf hL hF
    obtain ⟨t2, a1, b1⟩ := kk r u t T'.heap (locs ++ L) e1.symm (by rw [← e2]; exact X'.warmed.alike) hp hb k1 k2 k3 T' rfl X'
    exact ⟨t2, st t2 a1, b1⟩
  · obtain ⟨k1, k2, k3⟩ := vx_keep h0 e1 hS hAX hf hL hF
    obtain ⟨t2, a1, b1⟩ := kx E ce q u t T'.heap (locs ++ L) e1.symm (by rw [← e2]; exact X'.warmed.alike) hp hb k1 k2 k3 (by rw [e1]; exact hce) hcv hcl T' rfl X'
    exact ⟨t2, st.trans a1, b1⟩
theorem vx_callv {S SX : Type} {post : S → Prop} {px : SX → Prop} {B : S → State → Prop} {BX : String → SX → State → Prop} {AX : Nat → Prop} (hr : vx_Run p l e R s m args below meth c H locs cells slots mc ms (F0 m pc ls st0) rest (va_Qv post B A1 a) (vx_X px BX AX) free) (hS : va_S A0 H0 H locs) (hA : ∀ q, q < H.size → A1 q → A0 q) (hf : ∀ q, free q → A0 q) (hAX : ∀ q, q < H.size → AX q → A0 q)
    (kx : ∀ (E : String) (ce : Cell) (q9 : Addr) (u : SX) (t : State) (H1 : Heap) (locs1 : List Loc), t.heap = H1 → s.vm.Alike t.vm → px u → BX E u t → H.size ≤ H1.size → (∀ q : Nat, q < H.size → ¬ AX q → H1[q]? = H[q]?) → va_S A0 H0 H1 locs1 → H1[q9]? = some ce → ce.vm = .none → s.vm.findClass E = some ce.cls → vx_W p l e R s m args below meth c H1 locs1 (cells + mc) (slots + ms) Q (F0 m pc ls rest) q9)
    (kk : ∀ (u : S) (t : State) (H1 : Heap) (locs1 : List Loc), t.heap = H1 → s.vm.Alike t.vm → post u → B u t → H.size ≤ H1.size → (∀ q : Nat, q < H.size → ¬ A1 q → H1[q]? = H[q]?) → va_S A0 H0 H1 locs1 → W p l e R s m args below meth c H1 locs1 (cells + mc) (slots + ms) Q (F0 m (pc + 3) ls (rest))) : W p l e R s m args below meth c H locs cells slots Q (F0 m pc ls st0) := by
  intro T hT X
  rcases hr T hT X with ⟨v, st₀, t, T', L, h0, X', hL, e1, e2, ⟨⟨u, hv, hp, hb⟩, hF⟩, st⟩ | ⟨q, st₀, t, T', L, E, ce, h0, X', hL, e1, e2, ⟨u, hp, hb, hF⟩, hce, hcv, hcl, st⟩
  · cases hv
    obtain ⟨k1, k2, k3⟩ := vx_keep h0 e1 hS hA hf hL hF
    obtain ⟨t2, a1, b1⟩ := kk u t T'.heap (locs ++ L) e1.symm (by rw [← e2]; exact X'.warmed.alike) hp hb k1 k2 k3 T' rfl X'
    exact ⟨t2, st t2 a1, b1⟩
  · obtain ⟨k1, k2, k3⟩ := vx_keep h0 e1 hS hAX hf hL hF
    obtain ⟨t2, a1, b1⟩ := kx E ce q u t T'.heap (locs ++ L) e1.symm (by rw [← e2]; exact X'.warmed.alike) hp hb k1 k2 k3 (by rw [e1]; exact hce) hcv hcl T' rfl X'
    exact ⟨t2, st.trans a1, b1⟩
/-- caught by the row x of this method's table; the rows ahead don't take it -/
theorem vx_catch {own name : String} {E : String} {ce : Cell} {q : Addr} (hown : s.vm.findClass own = some m.cls) (pre : List ExceptionTableEntry) (x : ExceptionTableEntry) (suf : List ExceptionTableEntry) (hsplit : c.exceptionTable.toList = pre ++ x :: suf)
    (hpass : ∀ z ∈ pre, covers z pc = false ∨ (z.catchType ≠ 0 ∧ ∃ nm : String, (Cond.classLink own z.catchType nm).before args s = true ∧ va_Nc E nm s)) (hx : covers x pc = true) (h0 : x.catchType ≠ 0)
    (hlink : (Cond.classLink own x.catchType name).before args s = true) (hcast : (Cond.castable E name).before args s = true) (hcell : H[q]? = some ce) (hv : ce.vm = .none) (hcl : s.vm.findClass E = some ce.cls)
    (kk : W p l e R s m args below meth c H locs cells slots Q (F0 m x.handlerPc ls [.ref q])) : vx_W p l e R s m args below meth c H locs cells slots Q (F0 m pc ls rest) q := by
  intro T hT X
  have hpl : e.platform.magicAccessors = ({} : Platform).magicAccessors := by rw [X.admits.platform]
  obtain ⟨c3, c4, hc3, hc4, hasg⟩ := Cond.castable_spec hcast
  cases Option.some.inj (hc3.symm.trans hcl)
  obtain ⟨c5, hc5, hcl5⟩ := Cond.classLink_spec hown hlink e.platform hpl
  cases Option.some.inj (hc4.symm.trans hc5)
  obtain ⟨vm', X', st⟩ := X.thenCaughtThrough q (g := F0 m pc ls rest) rfl (Steps.refl _) (by rw [hT]; exact hcell) (by rw [hv]; rfl) (by obtain ⟨k9, h9, -⟩ := Vm.findClass_spec hcl; exact ⟨k9, h9⟩) pre x suf hsplit
    (fun z hz => by
      rcases hpass z hz with h | ⟨hz0, nm, hl1, hn1⟩
      · exact Or.inl h
      · obtain ⟨c6, hc6, hcl6⟩ := Cond.classLink_spec hown hl1 e.platform hpl
        obtain ⟨a8, b8, h1, h2, h3⟩ := hn1
        cases Option.some.inj (h1.symm.trans hcl)
        cases Option.some.inj (h2.symm.trans hc6)
        exact Or.inr ⟨hz0, _, hcl6, h3⟩) hx (Or.inr ⟨h0, c4, hcl5, hasg⟩)
  obtain ⟨t, a1, b1⟩ := kk (T.setVm vm') hT X'
  exact ⟨t, st.trans a1, b1⟩
end Rows
section Ends
variable {p : Program} {l : Launch} {e : Env} {R : Room} {s : State} {m : MethodId} {args : Array Value} {below : List Frame} {meth : Method} {c : Code} {H : Heap} {locs : List Loc} {cells slots : Nat} {Q : State → Prop}
variable {mc ms : Nat} {free : Addr → Prop} {A0 A1 : Nat → Prop} {H0 : Heap} {a : Array Value} {ls : Array Slot} {st0 rest : List Value}
variable {Qc : Array Value → State → Outcome → State → Prop} {XC : String → State → State → Prop}
/-- what a body that may throw owes at its end -/
def vx_MQ (below : List Frame) (Qc : Array Value → State → Outcome → State → Prop) (XC : String → State → State → Prop) (a : Array Value) (s : State) (mc ms : Nat) (free : Addr → Prop) : State → Prop := fun t =>
  ∃ o, t.status = .running ∧ Ended t below o ∧ vx_Q Qc XC mc ms free a s o t
theorem vx_ret {g : JFrame} {mc ms : Nat} (k : W p l e R s m args below meth c H locs cells slots (MQ below Qc args s mc ms free) g) : W p l e R s m args below meth c H locs cells slots (vx_MQ below Qc XC args s mc ms free) g := by
  intro T hT X
  obtain ⟨t, a1, o, b1, b2, b3, b4⟩ := k T hT X
  exact ⟨t, a1, o, b1, b2, Or.inl ⟨b3, b4⟩⟩
/-- not caught here: it goes on to the caller -/
theorem vx_widen {g : JFrame} {q : Addr} {k n : Nat} (h1 : cells ≤ k) (h2 : slots ≤ n) (kk : vx_W p l e R s m args below meth c H locs k n Q g q) : vx_W p l e R s m args below meth c H locs cells slots Q g q := fun T hT X => kk T hT (stand_widen X h1 h2)
theorem vx_out {pc : Nat} {E : String} {ce : Cell} {q : Addr} {mc ms : Nat} (hout : ∀ x ∈ c.exceptionTable.toList, covers x pc = false) (hlocks : meth.locks = false) (hcell : H[q]? = some ce) (hv : ce.vm = .none) (hcl : s.vm.findClass E = some ce.cls)
    (hx : ∀ t : State, t.heap = H → s.vm.Alike t.vm → XC E s t) (hf : ∀ z ∈ locs, free z.base) (hc : cells ≤ mc) (hs : slots ≤ ms) :
    vx_W p l e R s m args below meth c H locs cells slots (vx_MQ below Qc XC args s mc ms free) (F0 m pc ls rest) q := by
  intro T hT X
  obtain ⟨st1, hrun, hend, hW, hsm⟩ := X.leaveThrown q (g := F0 m pc ls rest) rfl rfl rfl hout hlocks
  have hcell9 : (T.setFrames (.throwing q :: below)).heap[q]? = some ce := by
    show T.heap[q]? = some ce
    rw [hT]; exact hcell
  exact ⟨_, st1, .threw q, hrun, hend, Or.inr ⟨q, rfl, E, ce, locs, hx _ hT hW.alike, hcell9, hv, hcl, hW, hsm.mono hc hs, hf⟩⟩
theorem vx_frame {U : State} {k n : Nat} (h : s.sameButNew ({ U with vm := s.vm } : State) locs k n) : s.heap.size ≤ U.heap.size ∧ ∀ q : Nat, q < s.heap.size → (∀ z ∈ locs, z.base ≠ q) → U.heap[q]? = s.heap[q]? := by
  obtain ⟨-, h2, -, -, -, h6⟩ := h
  refine ⟨h2, fun q hq hz => ?_⟩
  obtain ⟨c9, e1, e2, e3, e4⟩ := h6 q _ (Array.getElem?_eq_getElem hq)
  have hs : c9.slots = (s.heap[q]).slots := Array.ext_getElem? fun i => e4 i fun hm => hz _ hm rfl
  have h9 : c9 = s.heap[q] := by
    rw [hs] at e2
    exact e2
  have e5 : U.heap[q]? = some c9 := e1
  rw [e5, h9, Array.getElem?_eq_getElem hq]
/-- the words of a throw but the four that speak of the heap -/
def vx_no (w : Cond) : Bool := decide (w ≠ .isRef (.static Bundle.tN "UNASSIGNED_STACK" Bundle.steD)) && decide (w ≠ .isRef (.static Bundle.tN "SUPPRESSED_SENTINEL" Bundle.listD)) && decide (w ≠ .laysStatic Bundle.tN "UNASSIGNED_STACK" Bundle.steD) && decide (w ≠ .laysStatic Bundle.tN "SUPPRESSED_SENTINEL" Bundle.listD)
def vx_at0 (own : String) (ic : Nat) (X : String) (names : List String) : List Cond := (Bundle.ownAtoms0 own ic X names).filter vx_no
def vx_atS (own : String) (ic : Nat) (X : String) (names : List String) : List Cond := (Bundle.ownAtoms own ic X names).filter vx_no
/-- a word that the tables alone decide, or a good one -/
def vx_ot (w : Cond) : Bool := w.onTables || goodWord w
theorem vx_ot_at {args a' : Array Value} {s U : State} {w : Cond} (hW : s.WarmedH U.vm) (hvm : s.vm = U.vm) (hg : vx_ot w = true) (h : w.before args s = true) : w.before a' U = true := by
  simp only [vx_ot, Bool.or_eq_true] at hg
  rcases hg with hg | hg
  · exact va_tabs hg hvm h
  · exact word_at hW (good_of_word hg) h
/-- a list's words: the good ones out of the method's own list, the others by premises of their own -/
theorem vx_hat {args : Array Value} {s : State} {L B : List Cond} (h1 : ∀ w ∈ L.filter goodWord, w.before args s = true) (h2 : ∀ w ∈ L.filter (fun w => !goodWord w), w ∈ B) (h3 : ∀ w ∈ B, w.before args s = true) : ∀ w ∈ L, w.before args s = true := by
  intro w hw
  by_cases g : goodWord w = true
  · exact h1 w (List.mem_filter.mpr ⟨hw, g⟩)
  · refine h3 w (h2 w (List.mem_filter.mpr ⟨hw, ?_⟩))
    show (!goodWord w) = true
    cases hgw : goodWord w
    · rfl
    · exact absurd hgw g
theorem vx_c {args : Array Value} {s : State} {w : Cond} {B : List Cond} (h : w.before args s = true) (t : ∀ w ∈ B, w.before args s = true) : ∀ w' ∈ w :: B, w'.before args s = true := fun w' h' => (List.mem_cons.mp h').elim (fun e => by rw [e]; exact h) (t w')
theorem vx_n {args : Array Value} {s : State} : ∀ w ∈ ([] : List Cond), w.before args s = true := fun _ h => nomatch h
theorem vx_own {args : Array Value} {s : State} {L : List Cond} (h1 : ∀ w ∈ L.filter vx_no, w.before args s = true)
    (hU : (Cond.isRef (.static Bundle.tN "UNASSIGNED_STACK" Bundle.steD)).before args s = true) (hN : (Cond.isRef (.static Bundle.tN "SUPPRESSED_SENTINEL" Bundle.listD)).before args s = true)
    (lU : (Cond.laysStatic Bundle.tN "UNASSIGNED_STACK" Bundle.steD).before args s = true) (lN : (Cond.laysStatic Bundle.tN "SUPPRESSED_SENTINEL" Bundle.listD).before args s = true) : ∀ w ∈ L, w.before args s = true := by
  intro w hw
  by_cases e1 : w = .isRef (.static Bundle.tN "UNASSIGNED_STACK" Bundle.steD)
  · rw [e1]; exact hU
  · by_cases e2 : w = .isRef (.static Bundle.tN "SUPPRESSED_SENTINEL" Bundle.listD)
    · rw [e2]; exact hN
    · by_cases e3 : w = .laysStatic Bundle.tN "UNASSIGNED_STACK" Bundle.steD
      · rw [e3]; exact lU
      · by_cases e4 : w = .laysStatic Bundle.tN "SUPPRESSED_SENTINEL" Bundle.listD
        · rw [e4]; exact lN
        · exact h1 w (List.mem_filter.mpr ⟨hw, by unfold vx_no; rw [decide_eq_true e1, decide_eq_true e2, decide_eq_true e3, decide_eq_true e4]; rfl⟩)
/-- where a static field lies, its class's statics cell in H -/
def vx_L (C n d : String) (A : Nat → Prop) (U : State) (H : Heap) : Prop := ∃ (c : ClassId) (k : Class) (i : Nat) (f : Field) (a : Nat) (cell : Cell), U.vm.findClass C = some c ∧ U.fieldFound? C n d = some (c, k, i, f) ∧ f.isStatic = true ∧ k.statics = some a ∧ H[a]? = some cell ∧ cell.vm.isStatics = true ∧ cell.cls = c ∧ f.slot < cell.slots.size ∧ k.staticTypes[f.slot]? = some f.type ∧ ¬ A a
theorem vx_L.moved {C n d : String} {A : Nat → Prop} {u U : State} {H : Heap} (hvm : u.vm.Alike U.vm) (h : vx_L C n d A u H) : vx_L C n d A U H := by
  obtain ⟨c, k, i, f, a, cell, h1, h2, h3, h4, h5, h6, h7, h8, h9, h10⟩ := h
  obtain ⟨k', hi', he⟩ := State.fieldFound?_setVm hvm h2
  exact ⟨c, k', i, f, a, cell, by rw [hvm.findClass]; exact h1, hi', h3, by rw [he]; exact h4, h5, h6, h7, h8, by rw [he]; exact h9, h10⟩
theorem vx_L.kept {C n d : String} {A : Nat → Prop} {U : State} {H H1 : Heap} (h : vx_L C n d A U H) (hq : ∀ a : Nat, a < H.size → ¬ A a → H1[a]? = H[a]?) : vx_L C n d A U H1 := by
  obtain ⟨c, k, i, f, a, cell, h1, h2, h3, h4, h5, h6, h7, h8, h9, h10⟩ := h
  exact ⟨c, k, i, f, a, cell, h1, h2, h3, h4, by rw [hq a (Array.getElem?_eq_some_iff.mp h5).1 h10]; exact h5, h6, h7, h8, h9, h10⟩
theorem vx_L.narrow {C n d : String} {A B : Nat → Prop} {U : State} {H : Heap} (h : vx_L C n d A U H) (hAB : ∀ q, B q → A q) : vx_L C n d B U H := by
  obtain ⟨c, k, i, f, a, cell, h1, h2, h3, h4, h5, h6, h7, h8, h9, h10⟩ := h
  exact ⟨c, k, i, f, a, cell, h1, h2, h3, h4, h5, h6, h7, h8, h9, fun z => h10 (hAB _ z)⟩
theorem vx_L.word {C n d : String} {A : Nat → Prop} {s : State} {args : Array Value} (h : vx_L C n d A s s.heap) : (Cond.laysStatic C n d).before args s = true := by
  obtain ⟨c, k, i, f, a, cell, h1, h2, h3, h4, h5, h6, h7, h8, h9, -⟩ := h
  show (Cond.laysStatic C n d).holds args s none s [] = true
  exact Cond.laysStatic_of h1 h2 h3 h4 h5 h6 h7 h8 h9
/-- .. and what it holds: null or some reference -/
def vx_Zq (C n d : String) (A : Nat → Prop) (U : State) (H : Heap) : Prop := va_Zq C n d A U H ∧ vx_L C n d A U H
theorem vx_Zq.moved {C n d : String} {A : Nat → Prop} {u U : State} {H : Heap} (hvm : u.vm.Alike U.vm) (h : vx_Zq C n d A u H) : vx_Zq C n d A U H := ⟨va_Zq.moved hvm h.1, vx_L.moved hvm h.2⟩
theorem vx_Zq.kept {C n d : String} {A : Nat → Prop} {U : State} {H H1 : Heap} (h : vx_Zq C n d A U H) (hq : ∀ a : Nat, a < H.size → ¬ A a → H1[a]? = H[a]?) : vx_Zq C n d A U H1 := ⟨va_Zq.kept h.1 hq, vx_L.kept h.2 hq⟩
theorem vx_Zq.narrow {C n d : String} {A B : Nat → Prop} {U : State} {H : Heap} (h : vx_Zq C n d A U H) (hAB : ∀ q, B q → A q) : vx_Zq C n d B U H := ⟨va_Zq.narrow h.1 hAB, vx_L.narrow h.2 hAB⟩
theorem vx_Zqof {args : Array Value} {s : State} {C n d : String} {A : Nat → Prop} (hl : (Cond.laysStatic C n d).before args s = true) (hini : (Cond.initialized C).before args s = true) (h : (Cond.isRef (.static C n d)).before args s = true) (hA : ∀ a : Nat, a < s.heap.size → ¬ A a) : vx_Zq C n d A s s.heap := by
  refine ⟨va_Zqof hl hini h hA, ?_⟩
  obtain ⟨c, k, i, f, a, cell, h1, h2, h3, h4, h5, h6, h7, h8, h9⟩ := Cond.laysStatic_spec hl
  exact ⟨c, k, i, f, a, cell, h1, h2, h3, h4, h5, h6, h7, h8, h9, hA a (Array.getElem?_eq_some_iff.mp h5).1⟩
theorem vx_isRef {C n d : String} {v : Value} {A : Nat → Prop} {s : State} {args : Array Value} (h : va_Z C n d v A s s.heap) (hv : v.isRef = true) : (Cond.isRef (.static C n d)).before args s = true := by
  obtain ⟨cf, kf, fi, f, a, cell, h1, h2, h3, h4, h5, h6, h7, -⟩ := h
  have he : (Term.static C n d).eval args s none [] s = some v := by
    simp [Term.eval, State.fieldNamed?, h1, h2, h4, h5, h6, h7]
  simp only [Cond.before, Cond.holds, Cond.value, he]
  cases v <;> simp_all [Value.isRef]
theorem vx_isRefq {C n d : String} {A : Nat → Prop} {s : State} {args : Array Value} (h : va_Zq C n d A s s.heap) : (Cond.isRef (.static C n d)).before args s = true := by
  rcases h with h | ⟨t, h⟩
  · exact vx_isRef h rfl
  · exact vx_isRef h rfl
/-- the same frame, seen from here: as if the method were called anew in this heap -/
theorem vx_rebase {T : State} (X : Stand p l e R s m args below meth c T locs cells slots) {R' : Room} (hf : R'.frames ≤ R.frames) (hl : R'.locals ≤ R.locals) (hc : cells + R'.cells ≤ R.cells) (hs : slots + R'.slots ≤ R.slots) :
    Stand p l e R' ((T.setVm s.vm).setFrames (.invoking m args :: below)) m args below meth c T [] 0 0 := by
  have htop : (T.setVm s.vm).topJava?.isSome := X.here.top
  have hF : ((T.setVm s.vm).setFrames (.invoking m args :: below)).frames = .invoking m args :: below := State.frames_setFrames _ (State.cur_lt_of_top htop)
  obtain ⟨g₀, hg0⟩ := Option.isSome_iff_exists.mp htop
  obtain ⟨r, hr⟩ := State.topJava?_eq_some.mp hg0
  have hl9 : e.platform.stackLimits (T.setVm s.vm).me = e.platform.stackLimits s.me := X.limits
  have hb9 : (T.setVm s.vm).me.stackBytes = s.me.stackBytes := X.bytes
  refine ⟨X.admits, X.cas, X.clock, hF, ?_, X.hears, X.method, X.code, X.here, X.tail, X.warmed, ?_, ?_, ?_⟩
  · have h := X.room
    have hU : ((T.setVm s.vm).setFrames (.invoking m args :: below)).localsInUse = s.localsInUse := by
      rw [State.localsInUse_invoking hF (meth := meth) (c := c) X.method X.code, State.localsInUse_invoking X.frames X.method X.code]
    simp only [State.hasRoom, Bool.and_eq_true, decide_eq_true_eq] at h ⊢
    obtain ⟨⟨⟨⟨h1, h2, h3, h4, h5, h6⟩, h7⟩, h8⟩, h9⟩ := h
    rw [X.frames, List.length_cons] at h2 h3
    have q1 := X.heapSize
    have q2 := X.used
    simp only [hF, hU, List.length_cons, State.stackLimits_setFrames, State.stackBytes_setFrames, hl9, hb9]
    refine ⟨⟨⟨⟨by omega, by omega, by omega, by omega, by omega, h6⟩, ?_⟩, ?_⟩, X.book⟩
    · show T.heap.size + R'.cells ≤ e.platform.maxCells
      omega
    · show T.slotsUsed + R'.slots ≤ e.platform.maxSlots
      omega
  · rw [State.stackLimits_setFrames]; rfl
  · rw [State.stackBytes_setFrames]; rfl
  · refine ⟨?_, Nat.le_refl _, Nat.le_refl _, ?_, ?_, fun a c9 h9 => ⟨c9, h9, rfl, rfl, fun _ _ => rfl⟩⟩
    · obtain ⟨t, ht, -⟩ := State.frames_cons hr
      show T.setVm s.vm = { ((T.setVm s.vm).setFrames (.invoking m args :: below)).setFrames (T.setVm s.vm).frames with heap := T.heap, slotsUsed := T.slotsUsed }
      rw [State.setFrames_setFrames, State.setFrames_self ht]
      rfl
    · show T.slotsUsed = T.slotsUsed + ((T.heap.toList.drop T.heap.size).map (·.slots.size)).sum
      rw [List.drop_eq_nil_of_le (Nat.le_of_eq Array.length_toList)]
      rfl
    · show ((T.heap.toList.drop T.heap.size).map (·.slots.size)).sum ≤ 0
      rw [List.drop_eq_nil_of_le (Nat.le_of_eq Array.length_toList)]
      exact Nat.le_refl _
/-- 'throw new E()': new; dup; invokespecial; athrow -/
theorem vx_throw0 {cc : ByteArray} {pc : Nat} (hexec : p.tables.exec = Jvm.exec) (hb : c.code = cc) (hl : l.stackTraces = false) {own cls : String} {names : List String} {ik ic mc ms : Nat} {A : Nat → Prop}
    (hown : s.vm.findClass own = some m.cls) (hcls : Bundle.fit cls = true) (hnames : ∀ n ∈ names, Bundle.fit n = true)
    (hk : (Cond.classLink own ik cls).before args s = true) (hini : (Cond.initialized cls).before args s = true) (hat : ∀ w ∈ vx_at0 own ic cls names, w.before args s = true)
    (hgood : ∀ w ∈ Cond.classLink own ik cls :: Cond.initialized cls :: vx_at0 own ic cls names, vx_ot w = true)
    (hU : vx_Zq Bundle.tN "UNASSIGNED_STACK" Bundle.steD A s s.heap) (hN : vx_Zq Bundle.tN "SUPPRESSED_SENTINEL" Bundle.listD A s s.heap) (hS : va_S A s.heap H locs) (hsize : ls.size = c.maxLocals)
    (d0 : decode cc pc = .ok (.new ik, 3)) (d3 : decode cc (pc + 3) = .ok (.dup, 1)) (d4 : decode cc (pc + 4) = .ok (.invokespecial ic, 3)) (d7 : decode cc (pc + 7) = .ok (.athrow, 1))
    (hout : ∀ x ∈ c.exceptionTable.toList, covers x (pc + 7) = false)
    (hRframes : names.length + 3 < R.frames) (hRlocals : (rest.map fun v => v.category).sum + (13 * (names.length + 1) + 42) ≤ R.locals) (hRcells : cells + 1 ≤ R.cells) (hRslots : slots + 6 ≤ R.slots) (hlocks : meth.locks = false)
    (hx : ∀ t : State, s.vm.Alike t.vm → H.size ≤ t.heap.size → (∀ q : Nat, q < H.size → t.heap[q]? = H[q]?) → XC cls s t)
    (hf : ∀ z ∈ locs, free z.base) (hc : cells + 1 ≤ mc) (hs : slots + 6 ≤ ms) :
    W p l e R s m args below meth c H locs cells slots (vx_MQ below Qc XC args s mc ms free) (F0 m pc ls rest) := by
  intro T hT X
  have htr : e.platform.stackTraces = false := (show e.platform.stackTraces = l.stackTraces by rw [X.admits.platform]).trans hl
  have Y := vx_rebase X (R' := { frames := R.frames, locals := R.locals, cells := 1, slots := 6 }) (Nat.le_refl _) (Nat.le_refl _) hRcells hRslots
  obtain ⟨s', hA⟩ : ∃ z, z = (T.setVm s.vm).setFrames (.invoking m args :: below) := ⟨_, rfl⟩
  rw [← hA] at Y
  have hvm : s'.vm = s.vm := by rw [hA]; rfl
  have hhp : s'.heap = H := by rw [hA]; exact hT
  have hW0 : s.WarmedH s'.vm := by rw [hvm]; exact State.WarmedH.refl s
  have hat' : ∀ w ∈ vx_at0 own ic cls names, w.before args s' = true := fun w hw => vx_ot_at hW0 hvm.symm (hgood w (List.mem_cons_of_mem _ (List.mem_cons_of_mem _ hw))) (hat w hw)
  have hk' : (Cond.classLink own ik cls).before args s' = true := vx_ot_at hW0 hvm.symm (hgood _ List.mem_cons_self) hk
  have hini' : (Cond.initialized cls).before args s' = true := vx_ot_at hW0 hvm.symm (hgood _ (List.mem_cons_of_mem _ List.mem_cons_self)) hini
  have hU' : vx_Zq Bundle.tN "UNASSIGNED_STACK" Bundle.steD A s' s'.heap := by rw [hhp]; exact vx_Zq.moved hW0.alike (hU.kept hS.2.1)
  have hN' : vx_Zq Bundle.tN "SUPPRESSED_SENTINEL" Bundle.listD A s' s'.heap := by rw [hhp]; exact vx_Zq.moved hW0.alike (hN.kept hS.2.1)
  have h : ∀ w ∈ Bundle.ownAtoms0 own ic cls names, w.before args s' = true := vx_own hat' (vx_isRefq hU'.1) (vx_isRefq hN'.1) hU'.2.word hN'.2.word
  have hown' : s'.vm.findClass own = some m.cls := by rw [hvm]; exact hown
  have hins : (Cond.instantiable cls 6).before args s' = true := h _ (by simp [Bundle.ownAtoms0])
  obtain ⟨vm₁, cX, kX, hfX, hkX, -, -, X₁, st1⟩ := Y.newCold hexec (own := own) (C := cls) (index := ik) (n := 6) hown' hk' hins hini'
    (g := F0 m pc ls rest) rfl (by rw [hb]; exact d0) (Nat.le_refl _) (Nat.le_refl _)
  generalize hT1 : (T.setVm vm₁).pushCell { cls := cX, slots := kX.instanceTypes.map defaultValue, vm := .none } = T1 at X₁ st1
  have hcat : (Value.ref T.heap.size).category = 1 := rfl
  have hcellA : T1.heap[T.heap.size]? = some (freshCell cX kX) := by rw [← hT1]; exact State.heap_pushCell_size _ _
  have d3' : decode c.code (pc + 3) = .ok (.dup, 1) := by rw [hb]; exact d3
  obtain ⟨U, hsteps, hrun, hend, hW, hsame, ce, hce, hO⟩ := X₁.ctorThrow0 hexec htr (own := own) (cls := cls) (names := names) (ic := ic) hown' hcls hnames h (fun x hx => nomatch hx) hfX hkX hcellA (by rw [hhp, hT]; exact Nat.le_refl _)
    (g := { method := m, pc := pc + 4, locals := ls, stack := .ref T.heap.size :: .ref T.heap.size :: rest, locked := none }) rfl hsize rfl rfl (rest := rest) rfl
    (by rw [hb]; exact d4) (by rw [hb]; exact d7) hout hRframes (by simp only [List.map_cons, List.sum_cons, hcat]; omega) hlocks
  obtain ⟨f1, f2⟩ := vx_frame hsame
  rw [hhp] at f1 f2
  have hWs : s.WarmedH U.vm := State.WarmedH.trans hW0 hW
  have hcl : s.vm.findClass cls = some ce.cls := by
    have h9 := hO.cls
    rw [hvm] at h9
    exact h9
  have hall : s.sameButNew ({ U with vm := s.vm } : State) locs mc ms := by
    subst hA
    obtain ⟨e1, e2⟩ := hsame
    rw [State.setFrames_setFrames] at e1
    have h2 : (T.setVm s.vm).sameButNew ({ U with vm := s.vm } : State) [] (0 + 1) (0 + 6) := ⟨e1, e2⟩
    have h3 := X.same.trans h2
    rw [List.append_nil] at h3
    exact h3.mono hc hs
  refine ⟨U, ?_, .threw T.heap.size, hrun, hend, Or.inr ⟨T.heap.size, rfl, cls, ce, locs, hx U hWs.alike f1 (fun q hq => f2 q hq (fun z hz => nomatch hz)), hce, hO.vm, hcl, hWs, hall, hf⟩⟩
  refine st1 _ ?_
  show Steps p.tables e below (T1.setTop { method := m, pc := pc + 3, locals := ls, stack := .ref T.heap.size :: rest, locked := none }) _
  jvm_step X₁.here [X₁.here.top, hexec, d3', Value.category]
  exact hsteps
/-- 'throw new E("text")': new; dup; ldc; invokespecial; athrow -/
theorem vx_throwS {cc : ByteArray} {pc : Nat} (hexec : p.tables.exec = Jvm.exec) (hb : c.code = cc) (hl : l.stackTraces = false) {own cls text : String} {names : List String} {ik is ic mc ms sa : Nat} {A : Nat → Prop}
    (hown : s.vm.findClass own = some m.cls) (hcls : Bundle.fit cls = true) (hnames : ∀ n ∈ names, Bundle.fit n = true)
    (hk : (Cond.classLink own ik cls).before args s = true) (hini : (Cond.initialized cls).before args s = true) (hstr : vk_R own is text sa s) (hat : ∀ w ∈ vx_atS own ic cls names, w.before args s = true)
    (hgood : ∀ w ∈ Cond.classLink own ik cls :: Cond.initialized cls :: vx_atS own ic cls names, vx_ot w = true)
    (hU : vx_Zq Bundle.tN "UNASSIGNED_STACK" Bundle.steD A s s.heap) (hN : vx_Zq Bundle.tN "SUPPRESSED_SENTINEL" Bundle.listD A s s.heap) (hS : va_S A s.heap H locs) (hsize : ls.size = c.maxLocals)
    (d0 : decode cc pc = .ok (.new ik, 3)) (d3 : decode cc (pc + 3) = .ok (.dup, 1)) (d4 : decode cc (pc + 4) = .ok (.ldc is, 2)) (d6 : decode cc (pc + 6) = .ok (.invokespecial ic, 3)) (d9 : decode cc (pc + 9) = .ok (.athrow, 1))
    (hout : ∀ x ∈ c.exceptionTable.toList, covers x (pc + 9) = false)
    (hRframes : names.length + 3 < R.frames) (hRlocals : (rest.map fun v => v.category).sum + (13 * (names.length + 1) + 43) ≤ R.locals) (hRcells : cells + 1 ≤ R.cells) (hRslots : slots + 6 ≤ R.slots) (hlocks : meth.locks = false)
    (hx : ∀ t : State, s.vm.Alike t.vm → H.size ≤ t.heap.size → (∀ q : Nat, q < H.size → t.heap[q]? = H[q]?) → XC cls s t)
    (hf : ∀ z ∈ locs, free z.base) (hc : cells + 1 ≤ mc) (hs : slots + 6 ≤ ms) :
    W p l e R s m args below meth c H locs cells slots (vx_MQ below Qc XC args s mc ms free) (F0 m pc ls rest) := by
  intro T hT X
  have htr : e.platform.stackTraces = false := (show e.platform.stackTraces = l.stackTraces by rw [X.admits.platform]).trans hl
  have Y := vx_rebase X (R' := { frames := R.frames, locals := R.locals, cells := 1, slots := 6 }) (Nat.le_refl _) (Nat.le_refl _) hRcells hRslots
  obtain ⟨s', hA⟩ : ∃ z, z = (T.setVm s.vm).setFrames (.invoking m args :: below) := ⟨_, rfl⟩
  rw [← hA] at Y
  have hvm : s'.vm = s.vm := by rw [hA]; rfl
  have hhp : s'.heap = H := by rw [hA]; exact hT
  have hW0 : s.WarmedH s'.vm := by rw [hvm]; exact State.WarmedH.refl s
  have hat' : ∀ w ∈ vx_atS own ic cls names, w.before args s' = true := fun w hw => vx_ot_at hW0 hvm.symm (hgood w (List.mem_cons_of_mem _ (List.mem_cons_of_mem _ hw))) (hat w hw)
  have hk' : (Cond.classLink own ik cls).before args s' = true := vx_ot_at hW0 hvm.symm (hgood _ List.mem_cons_self) hk
  have hini' : (Cond.initialized cls).before args s' = true := vx_ot_at hW0 hvm.symm (hgood _ (List.mem_cons_of_mem _ List.mem_cons_self)) hini
  have hU' : vx_Zq Bundle.tN "UNASSIGNED_STACK" Bundle.steD A s' s'.heap := by rw [hhp]; exact vx_Zq.moved hW0.alike (hU.kept hS.2.1)
  have hN' : vx_Zq Bundle.tN "SUPPRESSED_SENTINEL" Bundle.listD A s' s'.heap := by rw [hhp]; exact vx_Zq.moved hW0.alike (hN.kept hS.2.1)
  have h : ∀ w ∈ Bundle.ownAtoms own ic cls names, w.before args s' = true := vx_own hat' (vx_isRefq hU'.1) (vx_isRefq hN'.1) hU'.2.word hN'.2.word
  have hown' : s'.vm.findClass own = some m.cls := by rw [hvm]; exact hown
  have hins : (Cond.instantiable cls 6).before args s' = true := h _ (by simp [Bundle.ownAtoms])
  obtain ⟨vm₁, cX, kX, hfX, hkX, -, -, X₁, st1⟩ := Y.newCold hexec (own := own) (C := cls) (index := ik) (n := 6) hown' hk' hins hini'
    (g := F0 m pc ls rest) rfl (by rw [hb]; exact d0) (Nat.le_refl _) (Nat.le_refl _)
  generalize hT1 : (T.setVm vm₁).pushCell { cls := cX, slots := kX.instanceTypes.map defaultValue, vm := .none } = T1 at X₁ st1
  have hcat : (Value.ref T.heap.size).category = 1 := rfl
  have hcellA : T1.heap[T.heap.size]? = some (freshCell cX kX) := by rw [← hT1]; exact State.heap_pushCell_size _ _
  have d3' : decode c.code (pc + 3) = .ok (.dup, 1) := by rw [hb]; exact d3
  have d4' : decode c.code (pc + 4) = .ok (.ldc is, 2) := by rw [hb]; exact d4
  have hstr' : vk_R own is text sa s' := vk_R.warm hW0 hstr
  obtain ⟨U, hsteps, hrun, hend, hW, hsame, ce, hce, hO⟩ := X₁.ctorThrowS hexec htr (own := own) (cls := cls) (names := names) (ic := ic) hown' hcls hnames h (fun x hx => nomatch hx) hfX hkX hcellA (by rw [hhp, hT]; exact Nat.le_refl _) (msg := .ref sa) rfl
    (g := { method := m, pc := pc + 6, locals := ls, stack := .ref sa :: .ref T.heap.size :: .ref T.heap.size :: rest, locked := none }) rfl hsize rfl rfl (rest := rest) rfl
    (by rw [hb]; exact d6) (by rw [hb]; exact d9) hout hRframes (by simp only [List.map_cons, List.sum_cons, hcat]; omega) hlocks
  obtain ⟨f1, f2⟩ := vx_frame hsame
  rw [hhp] at f1 f2
  have hWs : s.WarmedH U.vm := State.WarmedH.trans hW0 hW
  have hcl : s.vm.findClass cls = some ce.cls := by
    have h9 := hO.cls
    rw [hvm] at h9
    exact h9
  have hall : s.sameButNew ({ U with vm := s.vm } : State) locs mc ms := by
    subst hA
    obtain ⟨e1, e2⟩ := hsame
    rw [State.setFrames_setFrames] at e1
    have h2 : (T.setVm s.vm).sameButNew ({ U with vm := s.vm } : State) [] (0 + 1) (0 + 6) := ⟨e1, e2⟩
    have h3 := X.same.trans h2
    rw [List.append_nil] at h3
    exact h3.mono hc hs
  refine ⟨U, ?_, .threw T.heap.size, hrun, hend, Or.inr ⟨T.heap.size, rfl, cls, ce, locs, hx U hWs.alike f1 (fun q hq => f2 q hq (fun z hz => nomatch hz)), hce, hO.vm, hcl, hWs, hall, hf⟩⟩
  refine st1 _ ?_
  show Steps p.tables e below (T1.setTop { method := m, pc := pc + 3, locals := ls, stack := .ref T.heap.size :: rest, locked := none }) _
  jvm_step X₁.here [X₁.here.top, hexec, d3', Value.category]
  exact X₁.ldcString hexec (own := own) (text := text) (index := is) (a := sa) hown' hstr'.1 hstr'.2
    (g := { method := m, pc := pc + 4, locals := ls, stack := .ref T.heap.size :: .ref T.heap.size :: rest, locked := none }) rfl d4' _ hsteps
/-- 'throw new E("text")', the text by a wide index -/
theorem vx_throwSW {cc : ByteArray} {pc : Nat} (hexec : p.tables.exec = Jvm.exec) (hb : c.code = cc) (hl : l.stackTraces = false) {own cls text : String} {names : List String} {ik is ic mc ms sa : Nat} {A : Nat → Prop}
    (hown : s.vm.findClass own = some m.cls) (hcls : Bundle.fit cls = true) (hnames : ∀ n ∈ names, Bundle.fit n = true)
    (hk : (Cond.classLink own ik cls).before args s = true) (hini : (Cond.initialized cls).before args s = true) (hstr : vk_R own is text sa s) (hat : ∀ w ∈ vx_atS own ic cls names, w.before args s = true)
    (hgood : ∀ w ∈ Cond.classLink own ik cls :: Cond.initialized cls :: vx_atS own ic cls names, vx_ot w = true)
    (hU : vx_Zq Bundle.tN "UNASSIGNED_STACK" Bundle.steD A s s.heap) (hN : vx_Zq Bundle.tN "SUPPRESSED_SENTINEL" Bundle.listD A s s.heap) (hS : va_S A s.heap H locs) (hsize : ls.size = c.maxLocals)
    (d0 : decode cc pc = .ok (.new ik, 3)) (d3 : decode cc (pc + 3) = .ok (.dup, 1)) (d4 : decode cc (pc + 4) = .ok (.ldc_w is, 3)) (d7 : decode cc (pc + 7) = .ok (.invokespecial ic, 3)) (d10 : decode cc (pc + 10) = .ok (.athrow, 1))
    (hout : ∀ x ∈ c.exceptionTable.toList, covers x (pc + 10) = false)
    (hRframes : names.length + 3 < R.frames) (hRlocals : (rest.map fun v => v.category).sum + (13 * (names.length + 1) + 43) ≤ R.locals) (hRcells : cells + 1 ≤ R.cells) (hRslots : slots + 6 ≤ R.slots) (hlocks : meth.locks = false)
    (hx : ∀ t : State, s.vm.Alike t.vm → H.size ≤ t.heap.size → (∀ q : Nat, q < H.size → t.heap[q]? = H[q]?) → XC cls s t)
    (hf : ∀ z ∈ locs, free z.base) (hc : cells + 1 ≤ mc) (hs : slots + 6 ≤ ms) :
    W p l e R s m args below meth c H locs cells slots (vx_MQ below Qc XC args s mc ms free) (F0 m pc ls rest) := by
  intro T hT X
  have htr : e.platform.stackTraces = false := (show e.platform.stackTraces = l.stackTraces by rw [X.admits.platform]).trans hl
  have Y := vx_rebase X (R' := { frames := R.frames, locals := R.locals, cells := 1, slots := 6 }) (Nat.le_refl _) (Nat.le_refl _) hRcells hRslots
  obtain ⟨s', hA⟩ : ∃ z, z = (T.setVm s.vm).setFrames (.invoking m args :: below) := ⟨_, rfl⟩
  rw [← hA] at Y
  have hvm : s'.vm = s.vm := by rw [hA]; rfl
  have hhp : s'.heap = H := by rw [hA]; exact hT
  have hW0 : s.WarmedH s'.vm := by rw [hvm]; exact State.WarmedH.refl s
  have hat' : ∀ w ∈ vx_atS own ic cls names, w.before args s' = true := fun w hw => vx_ot_at hW0 hvm.symm (hgood w (List.mem_cons_of_mem _ (List.mem_cons_of_mem _ hw))) (hat w hw)
  have hk' : (Cond.classLink own ik cls).before args s' = true := vx_ot_at hW0 hvm.symm (hgood _ List.mem_cons_self) hk
  have hini' : (Cond.initialized cls).before args s' = true := vx_ot_at hW0 hvm.symm (hgood _ (List.mem_cons_of_mem _ List.mem_cons_self)) hini
  have hU' : vx_Zq Bundle.tN "UNASSIGNED_STACK" Bundle.steD A s' s'.heap := by rw [hhp]; exact vx_Zq.moved hW0.alike (hU.kept hS.2.1)
  have hN' : vx_Zq Bundle.tN "SUPPRESSED_SENTINEL" Bundle.listD A s' s'.heap := by rw [hhp]; exact vx_Zq.moved hW0.alike (hN.kept hS.2.1)
  have h : ∀ w ∈ Bundle.ownAtoms own ic cls names, w.before args s' = true := vx_own hat' (vx_isRefq hU'.1) (vx_isRefq hN'.1) hU'.2.word hN'.2.word
  have hown' : s'.vm.findClass own = some m.cls := by rw [hvm]; exact hown
  have hins : (Cond.instantiable cls 6).before args s' = true := h _ (by simp [Bundle.ownAtoms])
  obtain ⟨vm₁, cX, kX, hfX, hkX, -, -, X₁, st1⟩ := Y.newCold hexec (own := own) (C := cls) (index := ik) (n := 6) hown' hk' hins hini'
    (g := F0 m pc ls rest) rfl (by rw [hb]; exact d0) (Nat.le_refl _) (Nat.le_refl _)
  generalize hT1 : (T.setVm vm₁).pushCell { cls := cX, slots := kX.instanceTypes.map defaultValue, vm := .none } = T1 at X₁ st1
  have hcat : (Value.ref T.heap.size).category = 1 := rfl
  have hcellA : T1.heap[T.heap.size]? = some (freshCell cX kX) := by rw [← hT1]; exact State.heap_pushCell_size _ _
  have d3' : decode c.code (pc + 3) = .ok (.dup, 1) := by rw [hb]; exact d3
  have d4' : decode c.code (pc + 4) = .ok (.ldc_w is, 3) := by rw [hb]; exact d4
  have hstr' : vk_R own is text sa s' := vk_R.warm hW0 hstr
  obtain ⟨U, hsteps, hrun, hend, hW, hsame, ce, hce, hO⟩ := X₁.ctorThrowS hexec htr (own := own) (cls := cls) (names := names) (ic := ic) hown' hcls hnames h (fun x hx => nomatch hx) hfX hkX hcellA (by rw [hhp, hT]; exact Nat.le_refl _) (msg := .ref sa) rfl
    (g := { method := m, pc := pc + 7, locals := ls, stack := .ref sa :: .ref T.heap.size :: .ref T.heap.size :: rest, locked := none }) rfl hsize rfl rfl (rest := rest) rfl
    (by rw [hb]; exact d7) (by rw [hb]; exact d10) hout hRframes (by simp only [List.map_cons, List.sum_cons, hcat]; omega) hlocks
  obtain ⟨f1, f2⟩ := vx_frame hsame
  rw [hhp] at f1 f2
  have hWs : s.WarmedH U.vm := State.WarmedH.trans hW0 hW
  have hcl : s.vm.findClass cls = some ce.cls := by
    have h9 := hO.cls
    rw [hvm] at h9
    exact h9
  have hall : s.sameButNew ({ U with vm := s.vm } : State) locs mc ms := by
    subst hA
    obtain ⟨e1, e2⟩ := hsame
    rw [State.setFrames_setFrames] at e1
    have h2 : (T.setVm s.vm).sameButNew ({ U with vm := s.vm } : State) [] (0 + 1) (0 + 6) := ⟨e1, e2⟩
    have h3 := X.same.trans h2
    rw [List.append_nil] at h3
    exact h3.mono hc hs
  refine ⟨U, ?_, .threw T.heap.size, hrun, hend, Or.inr ⟨T.heap.size, rfl, cls, ce, locs, hx U hWs.alike f1 (fun q hq => f2 q hq (fun z hz => nomatch hz)), hce, hO.vm, hcl, hWs, hall, hf⟩⟩
  refine st1 _ ?_
  show Steps p.tables e below (T1.setTop { method := m, pc := pc + 3, locals := ls, stack := .ref T.heap.size :: rest, locked := none }) _
  jvm_step X₁.here [X₁.here.top, hexec, d3', Value.category]
  exact X₁.ldcStringW hexec (own := own) (text := text) (index := is) (a := sa) hown' hstr'.1 hstr'.2
    (g := { method := m, pc := pc + 4, locals := ls, stack := .ref T.heap.size :: .ref T.heap.size :: rest, locked := none }) rfl d4' _ hsteps
end Ends
section Bodies
variable {l : Launch}
theorem vx_ofW {y : MethodName} {ws ws' : List Cond} {rm : Room} {Pc : Array Value → State → Prop} {Qc : Array Value → State → Outcome → State → Prop} {XC : String → State → State → Prop} {mc ms : Nat} {free : Addr → Prop} {cc : ByteArray} {maxL : Nat} {ret : Option FieldType}
    (hy : plainName y.cls = true) (hw : ws = Cond.code y cc maxL ret :: ws')
    (body : ∀ p e s m args below meth c s₁, BodyLoose p l y (headSpec ws rm) cc maxL ret e s m args below meth c s₁ → c.maxLocals = maxL → (∀ x ∈ c.exceptionTable.toList, False) → Pc args s →
      W p l e (headSpec ws rm).room s m args below meth c s.heap [] 0 0 (vx_MQ below Qc XC args s mc ms free) (entryFrame m args maxL)) : vx_Met l y ws rm Pc Qc XC mc ms free := by
  refine MetFree.of_bodyS (code := cc) (maxLocals := maxL) (ret := ret) hy ?_ ?_
  · intro args s m h hn
    obtain ⟨meth, c, h1, h2, h3, h4, h5, h6, -, -⟩ := Cond.code_spec hn (atoms_spec (ws := ws) h _ (by rw [hw]; exact List.mem_cons_self))
    exact ⟨meth, c, h1, h2, h3, h4, h5, h6⟩
  · intro p e s m args below meth c s₁ B hml hP _
    have hh0 : s₁.heap = s.heap := by rw [B.state]; rfl
    have ht : ∀ x ∈ c.exceptionTable.toList, False := by
      obtain ⟨meth9, c9, h1, h2, -, -, -, -, h7, -⟩ := Cond.code_spec B.named (atoms_spec (ws := ws) B.pre _ (by rw [hw]; exact List.mem_cons_self))
      cases Option.some.inj (h1.symm.trans B.method)
      cases Option.some.inj (h2.symm.trans (Stand.of_body B).code)
      intro x hx
      rw [Array.isEmpty_iff.mp h7] at hx
      cases hx
    obtain ⟨t, a1, o, b1, b2, b3⟩ := body p e s m args below meth c s₁ B hml ht hP s₁ hh0 (Stand.of_body B)
    exact ⟨t, o, a1, b1, b2, b3⟩
/-- the table of a body with handlers -/
theorem vx_table {p : Program} {x y : MethodName} {S : Spec} {cc bytes : ByteArray} {maxL maxL' : Nat} {ret ret' : Option FieldType} {e : Env} {s s₁ : State} {m : MethodId} {args : Array Value} {below : List Frame} {meth : Method} {c : Code} {hh : List (Nat × Nat × Nat × Nat)}
    (B : BodyLoose p l y S cc maxL ret e s m args below meth c s₁) (h : (Cond.codeWith y bytes maxL' ret' hh).before args s = true) : c.exceptionTable.toList = tableOf hh := by
  obtain ⟨m9, meth9, c9, hn9, h1, h2, -, -, h6, -⟩ := Cond.codeWith_spec h
  cases Option.some.inj (hn9.symm.trans B.named)
  cases Option.some.inj (h1.symm.trans B.method)
  cases Option.some.inj (h2.symm.trans (Stand.of_body B).code)
  rw [← h6, table_eq]
end Bodies
end VXA
/-! ===== END ===== -/
/-! ===== BEGIN a static call of a method with an exception table ===== -/
section VXS
variable {p : Program} {l : Launch} {e : Env} {R : Room} {s : State} {m : MethodId} {args : Array Value} {below : List Frame} {meth : Method} {c : Code} {T : State} {H : Heap} {locs : List Loc} {cells slots : Nat}
abbrev vx_CSW (R : Room) (s : State) (args : Array Value) (own : String) (index : Nat) (y : MethodName) (bytes : ByteArray) (maxL : Nat) (ret : Option FieldType) (hh : List (Nat × Nat × Nat × Nat)) (ws : List Cond) (rm : Room) (mc ms n : Nat) : Prop :=
  (rm.cells = mc ∧ rm.slots = ms ∧ rm.frames + 1 ≤ R.frames ∧ 8 + (maxL + 11) + rm.locals ≤ R.locals ∧ (∀ w ∈ ws, ∀ (a' : Array Value) (U : State), s.WarmedH U.vm → w.before a' U = true) ∧ Cond.codeWith y bytes maxL ret hh ∈ ws) ∧
  (Cond.codeWith y bytes maxL ret hh).before args s = true ∧ (Cond.initialized y.cls).before args s = true ∧ (y.cls ≠ "java/lang/invoke/MethodHandle" ∧ y.cls ≠ "java/lang/invoke/VarHandle") ∧
  (∀ sig, parseMethodDescriptor y.desc = some sig → n = sig.parameters.length) ∧ (Cond.methodLink own index y).before args s = true ∧ (Cond.static y).before args s = true
theorem vx_cwSW {own : String} {index maxL mc ms : Nat} {y : MethodName} {bytes : ByteArray} {ret : Option FieldType} {hh : List (Nat × Nat × Nat × Nat)} {Ts ws ws' : List Cond} {rm : Room} (n : Nat) (ht : ∀ w ∈ Ts, w.before args s = true) (hT : GoodIn Ts (va_wsS own index y ws)) (hw : ws = Cond.codeWith y bytes maxL ret hh :: ws') (hrc : rm.cells = mc) (hrs : rm.slots = ms)
    (hd : y.cls ≠ "java/lang/invoke/MethodHandle" ∧ y.cls ≠ "java/lang/invoke/VarHandle" ∧ (parseMethodDescriptor y.desc).map (fun d => d.parameters.length) = some n) (hR : rm.frames + 1 ≤ R.frames ∧ 8 + (maxL + 11) + rm.locals ≤ R.locals) :
    vx_CSW R s args own index y bytes maxL ret hh ws rm mc ms n := by
  have ok : ∀ w ∈ va_wsS own index y ws, w.before args s = true := fun w h => ht w (hT w h).1
  have hG : GoodIn Ts ws := fun w h => hT w (by unfold va_wsS; exact List.mem_append_right _ h)
  have hc : Cond.codeWith y bytes maxL ret hh ∈ ws := by rw [hw]; exact List.mem_cons_self
  refine ⟨⟨hrc, hrs, hR.1, hR.2, pay_in ht hG, hc⟩, ht _ (hG _ hc).1, ok _ (by simp [va_wsS]), ⟨hd.1, hd.2.1⟩, fun sig h => ?_, ok _ (by simp [va_wsS]), ok _ (by simp [va_wsS])⟩
  have h2 := hd.2.2
  rw [h] at h2
  exact (Option.some.inj h2).symm
theorem vx_callSW (X : Stand p l e R s m args below meth c T locs cells slots) (hexec : p.tables.exec = Jvm.exec) {own : String} {index : Nat} {y : MethodName} {bytes : ByteArray} {maxL : Nat} {ret : Option FieldType} {hh : List (Nat × Nat × Nat × Nat)}
    (hown : s.vm.findClass own = some m.cls) (hlink : (Cond.methodLink own index y).before args s = true) (hstat : (Cond.static y).before args s = true) (hinit : (Cond.initialized y.cls).before args s = true)
    (hcode : (Cond.codeWith y bytes maxL ret hh).before args s = true) (hy : y.cls ≠ "java/lang/invoke/MethodHandle" ∧ y.cls ≠ "java/lang/invoke/VarHandle")
    {W9 : Nat} {Pre : Pt → Array Value → Prop} {Post : Pt → Array Value → Option Value → Pt → Prop} (hK : Back l R p e below s args y 3 W9 Pre Post)
    {g : JFrame} (hg : g.method = m) (hsize : g.locals.size = c.maxLocals) {argsL rest : List Value} (hlen : ∀ sig, parseMethodDescriptor y.desc = some sig → argsL.length = sig.parameters.length)
    (hstack : g.stack = argsL.reverse ++ rest) (hW : 2 * g.monitorRoom + (rest.map fun v => v.category).sum ≤ W9) (hdg : decode c.code g.pc = .ok (.invokestatic index, 3))
    (hpre : ∀ vm₁, s.WarmedH vm₁ → Pre ⟨T.setVm vm₁, locs, cells, slots⟩ argsL.toArray) :
    ∃ (v : Option Value) (vm₁ : Vm) (B : Pt), s.WarmedH vm₁ ∧ Stand p l e R s m args below meth c B.U B.locs B.cells B.slots ∧ Post ⟨T.setVm vm₁, locs, cells, slots⟩ argsL.toArray v B ∧
      ∀ target, Steps p.tables e below (B.U.setTop { g with pc := g.pc + 3, stack := v.toList ++ rest }) target → Steps p.tables e below (T.setTop g) target := by
  obtain ⟨mk, methM, cM, hnamed, hmethM, -, -, -, -, -, -, hsigM⟩ := Cond.codeWith_spec hcode
  have hstatic : methM.isStatic = true := Cond.static_spec hnamed hmethM hstat
  obtain ⟨kP, hkP, -⟩ := className_of_methodNamed hnamed
  have hinitP : kP.init = .initialized := Cond.initialized_spec (findClass_of_methodNamed hnamed) hkP hinit
  obtain ⟨vm₁, X₁, hstep₁⟩ := X.invokestatic hexec hown hlink hnamed hmethM hstatic hkP hinitP hy (g := g) hg (argsL := argsL) (rest := rest) (hlen _ hsigM) hstack hdg
  obtain ⟨v, B, X', hpost, hsteps⟩ := hK m meth c ⟨T.setVm vm₁, locs, cells, slots⟩ { g with stack := rest } (.invokestatic index) mk argsL.toArray X₁ hg hsize hdg hW (X₁.named hnamed) (hpre vm₁ X₁.warmed)
  exact ⟨v, vm₁, B, X₁.warmed, X', hpost, fun target h => hstep₁ _ fun acts => by rw [doInvoke_state]; exact hsteps.trans h⟩
theorem vx_runSW {y : MethodName} {bytes cc : ByteArray} {maxL nL mc ms n index : Nat} {ret : Option FieldType} {hh : List (Nat × Nat × Nat × Nat)} {ws : List Cond} {rm : Room} {Pc : Array Value → State → Prop} {Qc : Array Value → State → Outcome → State → Prop} {free : Addr → Prop} {Ts : List Cond} {own : String} {As rest : List Value} {g : JFrame}
    (S : CallFix p m c cc nL s args Ts own) (hM : Met l y ws rm Pc Qc mc ms free) (cw : vx_CSW R s args own index y bytes maxL ret hh ws rm mc ms n) (hp : PreS s H Pc As)
    (hg : g.method = m) (hn : As.length = n) (hsize : g.locals.size = nL) (hstack : g.stack = As.reverse ++ rest) (hW : 2 * g.monitorRoom + (rest.map fun v => v.category).sum ≤ 8) (hdg : decode cc g.pc = .ok (.invokestatic index, 3)) (hf : cells + mc ≤ R.cells ∧ slots + ms ≤ R.slots) :
    va_Run p l e R s m args below meth c H locs cells slots mc ms g rest (Qc As.toArray) (free) := by
  obtain ⟨⟨hrc, hrs, hfr, hlo, hws, hcw⟩, hcode, hini, hy, hlen, hl, hstt⟩ := cw
  have hK : Back l R p e below s args y 3 8 (PreOf R mc ms Pc) (PostOf Qc mc ms free) := va_backW (hh := hh) (bytes := bytes) (maxL := maxL) (ret := ret) hM hp.1 hrc hrs hfr hlo hws hcw (fun a' U hW => word_at hW (Or.inl (by first | rfl | simp [Cond.onTables, Cond.keeps, Cond.steady])) hini)
  obtain ⟨hx, hb, hml, ho, -⟩ := S
  intro T hT X
  obtain ⟨v, vm₁, ⟨U', l2, c2, s2⟩, hW₁, X', ⟨g', mk, t, L, e1, e2, hq, h1, hL, h2, h3⟩, st⟩ := vx_callSW X hx (hh := hh) (bytes := bytes) (maxL := maxL) (ret := ret) ho hl hstt hini hcode hy hK hg (hsize.trans hml.symm) (argsL := As) (rest := rest) (fun sig h => hn.trans (hlen sig h)) hstack hW (by rw [hb]; exact hdg)
    (fun vm₁ hW₁ => ⟨hf.1, hf.2, hp.2 (T.setVm vm₁) hT hW₁⟩)
  dsimp only [Pt.U, Pt.locs, Pt.cells, Pt.slots] at X' e1 e2 h1 h2 h3 st
  subst h1; subst h2; subst h3
  exact ⟨v, (T.setVm vm₁).calling g' mk As.toArray, t, U', L, hT, X', hL, e1, e2, hq, st⟩
/-- not caught here, past rows that name other classes: it goes on to the caller -/
theorem vx_outP {p : Program} {l : Launch} {e : Env} {R : Room} {s : State} {m : MethodId} {args : Array Value} {below : List Frame} {meth : Method} {c : Code} {H : Heap} {locs : List Loc} {cells slots : Nat} {free : Addr → Prop} {ls : Array Slot} {rest : List Value} {Qc : Array Value → State → Outcome → State → Prop} {XC : String → State → State → Prop}
    {pc : Nat} {own E : String} {ce : Cell} {q : Addr} {mc ms : Nat} (hown : s.vm.findClass own = some m.cls) (hlocks : meth.locks = false)
    (hpass : ∀ z ∈ c.exceptionTable.toList, covers z pc = false ∨ (z.catchType ≠ 0 ∧ ∃ nm : String, (Cond.classLink own z.catchType nm).before args s = true ∧ va_Nc E nm s)) (hcell : H[q]? = some ce) (hv : ce.vm = .none) (hcl : s.vm.findClass E = some ce.cls)
    (hx : ∀ t : State, t.heap = H → s.vm.Alike t.vm → XC E s t) (hf : ∀ z ∈ locs, free z.base) (hc : cells ≤ mc) (hs : slots ≤ ms) :
    vx_W p l e R s m args below meth c H locs cells slots (vx_MQ below Qc XC args s mc ms free) (F0 m pc ls rest) q := by
  intro T hT X
  have hpl : e.platform.magicAccessors = ({} : Platform).magicAccessors := by rw [X.admits.platform]
  obtain ⟨vm', hW', X', st⟩ := X.outThrough hlocks q (g := F0 m pc ls rest) rfl rfl rfl (cell := ce) (by rw [hT]; exact hcell) (by rw [hv]; rfl)
    (by obtain ⟨k9, h9, -⟩ := Vm.findClass_spec hcl; exact ⟨k9, h9⟩) (fun z hz => by
      rcases hpass z hz with h | ⟨hz0, nm, hl1, hn1⟩
      · exact Or.inl h
      · obtain ⟨c6, hc6, hcl6⟩ := Cond.classLink_spec hown hl1 e.platform hpl
        obtain ⟨a8, b8, h1, h2, h3⟩ := hn1
        cases Option.some.inj (h1.symm.trans hcl)
        cases Option.some.inj (h2.symm.trans hc6)
        exact Or.inr ⟨hz0, _, hcl6, h3⟩)
  obtain ⟨g₀, hfr⟩ := X'.frames_eq
  have hcell9 : ((T.setVm vm').setFrames (.throwing q :: below)).heap[q]? = some ce := by
    show T.heap[q]? = some ce
    rw [hT]; exact hcell
  have hend : Ended ((T.setVm vm').setFrames (.throwing q :: below)) below (.threw q) := State.frames_setFrames _ (State.cur_lt_of_frames hfr)
  refine ⟨(T.setVm vm').setFrames (.throwing q :: below), ?_, .threw q, X'.here.running, hend, Or.inr ⟨q, rfl, E, ce, locs, hx _ hT (X'.ends _).1.alike, hcell9, hv, hcl, (X'.ends _).1, (X'.ends _).2.mono hc hs, hf⟩⟩
  rw [X.pushThrowing_eq]
  exact st
/-- a thing of a world lies in the heap -/
theorem vx_lt {D : va_G} {cl : List vw_C} {ws : va_W} {H1 : Heap} (h : va_P D cl ws H1) {k : Nat} {q : Nat × va_E} (hk : ws[k]? = some q) : q.1 < H1.size := (h k q hk).lt
end VXS
/-! ===== END ===== -/
/-! ===== BEGIN methods with a table of their own: called by a name, returning or throwing ===== -/
section VXH
/-! vx_backW, vx_callVX, vx_callSX, vx_callVW, vx_runVW, vx_runVX, vx_runSX, vx_ofWH follow the same proofs as their sisters above (Free/Laws.lean, Shelf42/LK1.lean); vx_outP calls Shelf42/NT130.lean (outThrough). -/
section
variable {l : Launch} {R : Room} {p : Program} {e : Env} {below : List Frame} {s : State} {sargs : Array Value} {y : MethodName} {len W9 : Nat}
theorem vx_backW {ws : List Cond} {rm : Room} {Pc : Array Value → State → Prop} {Qc : Array Value → State → Outcome → State → Prop} {XC : String → State → State → Prop} {mc ms : Nat} {free : Addr → Prop} {bytes : ByteArray} {maxL : Nat} {ret : Option FieldType} {hh : List (Nat × Nat × Nat × Nat)}
    (hM : vx_Met l y ws rm Pc Qc XC mc ms free) (hblind : FrameBlind Pc) (hrc : rm.cells = mc) (hrs : rm.slots = ms)
    (hframes : rm.frames + 1 ≤ R.frames) (hlocals : W9 + (maxL + 11) + rm.locals ≤ R.locals)
    (hws : ∀ w ∈ ws, ∀ a' U, s.WarmedH U.vm → w.before a' U = true) (hcode : Cond.codeWith y bytes maxL ret hh ∈ ws) (hinit : ∀ a' U, s.WarmedH U.vm → (Cond.initialized y.cls).before a' U = true) :
    vx_Back l R p e below s sargs y len W9 (PreOf R mc ms Pc) (PostOf Qc mc ms free) (vx_Post XC mc ms free) := by
  intro m meth c A g ig mk a X hg hsize hdg hW hn hp
  have h1 : (headSpec ws rm).pre.before a A.U = true := atoms_intro fun w hw => hws w hw _ _ X.warmed
  have h2 : (Cond.codeWith y bytes maxL ret hh).before a A.U = true := hws _ hcode _ _ X.warmed
  have h3 : (Cond.initialized y.cls).before a A.U = true := hinit _ _ X.warmed
  have h4 : A.cells + (headSpec ws rm).room.cells ≤ R.cells := by rw [show (headSpec ws rm).room.cells = mc from hrc]; exact hp.1
  have h5 : A.slots + (headSpec ws rm).room.slots ≤ R.slots := by rw [show (headSpec ws rm).room.slots = ms from hrs]; exact hp.2.1
  have hPc : Pc a (A.U.calling g mk a) := hblind _ _ _ _ hp.2.2
  obtain ⟨U, Ls, c0, s0⟩ := A
  dsimp only [Pt.U, Pt.locs, Pt.cells, Pt.slots] at h1 h2 h3 h4 h5 X hn hPc ⊢
  obtain ⟨m9, methY, cY, hn9, hmY, hcY, -, hlY, -⟩ := Cond.codeWith_spec h2
  cases Option.some.inj (hn9.symm.trans hn)
  obtain ⟨kY, hkY, -⟩ := className_of_methodNamed hn
  have hinitY : kY.init = .initialized := Cond.initialized_spec (findClass_of_methodNamed hn) hkY h3
  have h : At U g.method c below := by rw [hg]; exact X.here
  have hlocals9 : W9 + (maxL + 11) + (headSpec ws rm).room.locals ≤ R.locals := hlocals
  have happ : (headSpec ws rm).appliesLoose y e.platform (U.calling g mk a) = true :=
    Spec.appliesLoose_calling (g := g) h hdg hn hkY hinitY
      (X.room_calling (g := g) (R' := (headSpec ws rm).room) hsize hmY hcY hframes (by rw [hlY]; omega) h4 h5) h1
  obtain ⟨mid, hmid⟩ := h.above
  have hfr : (U.setTop g).frames = (.java g :: mid) ++ below := by rw [State.frames_setTop' g h.top, hmid]; rfl
  obtain ⟨o, s₂, hsteps, -, hend, hq⟩ := Steps.callFree hM p X.admits X.cas X.clock (acts := []) hfr happ hPc trivial
  have hq' : vx_Q Qc XC mc ms free a (U.calling g mk a) o s₂ := hq
  rw [State.frames_setTop' g h.top] at hend
  obtain ⟨g₀, hg0⟩ := Option.isSome_iff_exists.mp h.top
  obtain ⟨r, hr⟩ := State.topJava?_eq_some.mp hg0
  have hr' : (({ U with heap := s₂.heap, slotsUsed := s₂.slotsUsed } : State).setVm s₂.vm).frames = .java g₀ :: r := hr
  rcases hq' with ⟨hqc, L, hfe, hL⟩ | ⟨q, rfl, E, ce, L, hx, hce, hcv, hcl, hW₂, hsm, hL⟩
  · obtain ⟨⟨v, rfl⟩, hW₂, e2, q2, q3, q4, q5, q6⟩ := id hfe
    have e3 : s₂ = ({ (U.calling g mk a).setFrames s₂.frames with heap := s₂.heap, slotsUsed := s₂.slotsUsed } : State).setVm s₂.vm := by
      have : s₂ = ({ s₂ with vm := (U.calling g mk a).vm } : State).setVm s₂.vm := rfl
      rw [e2] at this
      exact this
    obtain ⟨c₂, i₂, len₂, hc₂, hd₂, hf₂⟩ := hend
    have hW' : U.WarmedH s₂.vm := hW₂
    have hcc : c₂ = c := by
      have h1 : s₂.code? g.method = U.code? g.method := by
        rw [State.code?_eq, State.code?_eq, hW'.alike.method?]
      exact Option.some.inj (hc₂.symm.trans (h1.trans h.code))
    subst hcc
    have hlen : len₂ = len := by rw [hdg] at hd₂; cases hd₂; rfl
    subst hlen
    have hs₂ : s₂ = (({ U with heap := s₂.heap, slotsUsed := s₂.slotsUsed } : State).setVm s₂.vm).setTop { g with pc := g.pc + len₂, stack := v.toList ++ g.stack } := by
      refine e3.trans ?_
      rw [hf₂, State.calling_eq h.top, State.setFrames_setFrames, State.setTop_of_frames _ hr', hr]
      rfl
    have hsame : U.sameButNew ({ U with heap := s₂.heap, slotsUsed := s₂.slotsUsed } : State) L mc ms := by
      refine ⟨?_, q2, q3, q4, q5, q6⟩
      obtain ⟨t, ht, -⟩ := State.frames_cons hr
      show ({ U with heap := s₂.heap, slotsUsed := s₂.slotsUsed } : State) = { U.setFrames U.frames with heap := s₂.heap, slotsUsed := s₂.slotsUsed }
      rw [State.setFrames_self ht]
    subst hg
    refine Or.inl ⟨v, ⟨(({ U with heap := s₂.heap, slotsUsed := s₂.slotsUsed } : State).setVm s₂.vm), Ls ++ L, c0 + mc, s0 + ms⟩,
      ⟨X.admits, X.cas, X.clock, X.frames, X.room, X.hears, X.method, X.code, (X.here.setHeapUsed s₂.heap s₂.slotsUsed).setVm hW'.alike, X.tail, State.WarmedH.trans X.warmed hW', X.limits, X.bytes, X.same.trans (hsame.setVm s.vm)⟩,
      ⟨g, mk, s₂, L, rfl, rfl, hqc, rfl, hL, rfl, rfl⟩, ?_⟩
    show Steps p.tables e below _ ((({ U with heap := s₂.heap, slotsUsed := s₂.slotsUsed } : State).setVm s₂.vm).setTop { g with pc := g.pc + len₂, stack := v.toList ++ g.stack })
    rw [← hs₂]
    exact hsteps
  · obtain ⟨e2, q2, q3, q4, q5, q6⟩ := id hsm
    have e3 : s₂ = ({ (U.calling g mk a).setFrames s₂.frames with heap := s₂.heap, slotsUsed := s₂.slotsUsed } : State).setVm s₂.vm := by
      have : s₂ = ({ s₂ with vm := (U.calling g mk a).vm } : State).setVm s₂.vm := rfl
      rw [e2] at this
      exact this
    have hf₂ : s₂.frames = .throwing q :: .java g :: U.frames.tail := hend
    have hW' : U.WarmedH s₂.vm := hW₂
    have hs₂ : s₂ = ((({ U with heap := s₂.heap, slotsUsed := s₂.slotsUsed } : State).setVm s₂.vm).setTop g).pushFrame (.throwing q) := by
      refine e3.trans ?_
      rw [hf₂, State.calling_eq h.top, State.setFrames_setFrames, State.pushFrame, State.frames_setTop _ hr', State.setTop_of_frames _ hr', State.setFrames_setFrames, hr]
      rfl
    have hsame : U.sameButNew ({ U with heap := s₂.heap, slotsUsed := s₂.slotsUsed } : State) L mc ms := by
      refine ⟨?_, q2, q3, q4, q5, q6⟩
      obtain ⟨t, ht, -⟩ := State.frames_cons hr
      show ({ U with heap := s₂.heap, slotsUsed := s₂.slotsUsed } : State) = { U.setFrames U.frames with heap := s₂.heap, slotsUsed := s₂.slotsUsed }
      rw [State.setFrames_self ht]
    subst hg
    refine Or.inr ⟨q, ⟨(({ U with heap := s₂.heap, slotsUsed := s₂.slotsUsed } : State).setVm s₂.vm), Ls ++ L, c0 + mc, s0 + ms⟩,
      ⟨X.admits, X.cas, X.clock, X.frames, X.room, X.hears, X.method, X.code, (X.here.setHeapUsed s₂.heap s₂.slotsUsed).setVm hW'.alike, X.tail, State.WarmedH.trans X.warmed hW', X.limits, X.bytes, X.same.trans (hsame.setVm s.vm)⟩,
      ⟨g, mk, s₂, L, E, ce, rfl, rfl, hx, hce, hcv, hcl, rfl, hL, rfl, rfl⟩, ?_⟩
    show Steps p.tables e below _ (((({ U with heap := s₂.heap, slotsUsed := s₂.slotsUsed } : State).setVm s₂.vm).setTop g).pushFrame (.throwing q))
    rw [← hs₂]
    exact hsteps
end
variable {p : Program} {l : Launch} {e : Env} {R : Room} {s : State} {m : MethodId} {args : Array Value} {below : List Frame} {meth : Method} {c : Code} {T : State} {H : Heap} {locs : List Loc} {cells slots : Nat}
theorem vx_callVX (X : Stand p l e R s m args below meth c T locs cells slots) (hexec : p.tables.exec = Jvm.exec) {own C : String} {index : Nat} {y : MethodName} {bytes : ByteArray} {maxL : Nat} {ret : Option FieldType} {hh : List (Nat × Nat × Nat × Nat)}
    (hown : s.vm.findClass own = some m.cls) (hlink : (Cond.methodLink own index y).before args s = true) (hinst : (Cond.instanceMethod y).before args s = true) (hsel : (Cond.selects C y y).before args s = true)
    (hcode : (Cond.codeWith y bytes maxL ret hh).before args s = true) (hy : y.cls ≠ "java/lang/invoke/MethodHandle" ∧ y.cls ≠ "java/lang/invoke/VarHandle")
    {W9 : Nat} {Pre : Pt → Array Value → Prop} {Post : Pt → Array Value → Option Value → Pt → Prop} {PostX : Pt → Array Value → Addr → Pt → Prop} (hK : vx_Back l R p e below s args y 3 W9 Pre Post PostX)
    {b : Addr} {cellB : Cell} (hcell : T.heap[b]? = some cellB) (hobj : cellB.vm.isStatics = false) (hcls : s.vm.findClass C = some cellB.cls)
    {g : JFrame} (hg : g.method = m) (hsize : g.locals.size = c.maxLocals) {argsL rest : List Value} (hlen : ∀ sig, parseMethodDescriptor y.desc = some sig → argsL.length = sig.parameters.length)
    (hstack : g.stack = argsL.reverse ++ .ref b :: rest) (hW : 2 * g.monitorRoom + (rest.map fun v => v.category).sum ≤ W9) (hdg : decode c.code g.pc = .ok (.invokevirtual index, 3))
    (hpre : ∀ vm₁, s.WarmedH vm₁ → Pre ⟨T.setVm vm₁, locs, cells, slots⟩ (Value.ref b :: argsL).toArray) :
    (∃ (v : Option Value) (vm₁ : Vm) (B : Pt), s.WarmedH vm₁ ∧ Stand p l e R s m args below meth c B.U B.locs B.cells B.slots ∧ Post ⟨T.setVm vm₁, locs, cells, slots⟩ (Value.ref b :: argsL).toArray v B ∧
      ∀ target, Steps p.tables e below (B.U.setTop { g with pc := g.pc + 3, stack := v.toList ++ rest }) target → Steps p.tables e below (T.setTop g) target) ∨
    (∃ (q : Addr) (vm₁ : Vm) (B : Pt), s.WarmedH vm₁ ∧ Stand p l e R s m args below meth c B.U B.locs B.cells B.slots ∧ PostX ⟨T.setVm vm₁, locs, cells, slots⟩ (Value.ref b :: argsL).toArray q B ∧
      Steps p.tables e below (T.setTop g) ((B.U.setTop { g with stack := rest }).pushFrame (.throwing q))) := by
  obtain ⟨mk, methM, hnamed, hmethM, hstM, habM⟩ := Cond.instanceMethod_spec hinst
  obtain ⟨m8, methM', cM, hn8, hmethM', -, -, -, -, -, -, hsigM⟩ := Cond.codeWith_spec hcode
  cases Option.some.inj (hn8.symm.trans hnamed)
  cases hmethM.symm.trans hmethM'
  obtain ⟨c2, r2, m2, q1, q2, q3, q4, kP, hkP, hkPi⟩ := Cond.selects_spec hsel
  cases hcls.symm.trans q1
  cases (State.methodFound?_of_named hnamed hy).symm.trans q2
  cases hnamed.symm.trans q3
  have hselP : selectMethod e.platform s.vm cellB.cls mk = .method mk := by rw [Launch.admits_selectMethod X.admits]; exact q4
  obtain ⟨vm₁, X₁, hstep₁⟩ := X.invokevirtual hexec hown hlink hnamed hmethM hstM hkP hkPi hy (a := b) (cell := cellB) hcell
    (fun z h => by rw [h] at hobj; cases hobj) hselP hmethM habM hkP hkPi (g := g) hg (argsL := argsL) (rest := rest) (hlen _ hsigM) hstack hdg
  rcases hK m meth c ⟨T.setVm vm₁, locs, cells, slots⟩ { g with stack := rest } (.invokevirtual index) mk (Value.ref b :: argsL).toArray X₁ hg hsize hdg hW (X₁.named hnamed) (hpre vm₁ X₁.warmed) with ⟨v, B, X', hpost, hsteps⟩ | ⟨q, B, X', hpost, hsteps⟩
  · exact Or.inl ⟨v, vm₁, B, X₁.warmed, X', hpost, fun target h => hstep₁ _ fun acts => by rw [doInvoke_state]; exact hsteps.trans h⟩
  · exact Or.inr ⟨q, vm₁, B, X₁.warmed, X', hpost, hstep₁ _ fun acts => by rw [doInvoke_state]; exact hsteps⟩
theorem vx_callSX (X : Stand p l e R s m args below meth c T locs cells slots) (hexec : p.tables.exec = Jvm.exec) {own : String} {index : Nat} {y : MethodName} {bytes : ByteArray} {maxL : Nat} {ret : Option FieldType} {hh : List (Nat × Nat × Nat × Nat)}
    (hown : s.vm.findClass own = some m.cls) (hlink : (Cond.methodLink own index y).before args s = true) (hstat : (Cond.static y).before args s = true) (hinit : (Cond.initialized y.cls).before args s = true)
    (hcode : (Cond.codeWith y bytes maxL ret hh).before args s = true) (hy : y.cls ≠ "java/lang/invoke/MethodHandle" ∧ y.cls ≠ "java/lang/invoke/VarHandle")
    {W9 : Nat} {Pre : Pt → Array Value → Prop} {Post : Pt → Array Value → Option Value → Pt → Prop} {PostX : Pt → Array Value → Addr → Pt → Prop} (hK : vx_Back l R p e below s args y 3 W9 Pre Post PostX)
    {g : JFrame} (hg : g.method = m) (hsize : g.locals.size = c.maxLocals) {argsL rest : List Value} (hlen : ∀ sig, parseMethodDescriptor y.desc = some sig → argsL.length = sig.parameters.length)
    (hstack : g.stack = argsL.reverse ++ rest) (hW : 2 * g.monitorRoom + (rest.map fun v => v.category).sum ≤ W9) (hdg : decode c.code g.pc = .ok (.invokestatic index, 3))
    (hpre : ∀ vm₁, s.WarmedH vm₁ → Pre ⟨T.setVm vm₁, locs, cells, slots⟩ argsL.toArray) :
    (∃ (v : Option Value) (vm₁ : Vm) (B : Pt), s.WarmedH vm₁ ∧ Stand p l e R s m args below meth c B.U B.locs B.cells B.slots ∧ Post ⟨T.setVm vm₁, locs, cells, slots⟩ argsL.toArray v B ∧
      ∀ target, Steps p.tables e below (B.U.setTop { g with pc := g.pc + 3, stack := v.toList ++ rest }) target → Steps p.tables e below (T.setTop g) target) ∨
    (∃ (q : Addr) (vm₁ : Vm) (B : Pt), s.WarmedH vm₁ ∧ Stand p l e R s m args below meth c B.U B.locs B.cells B.slots ∧ PostX ⟨T.setVm vm₁, locs, cells, slots⟩ argsL.toArray q B ∧
      Steps p.tables e below (T.setTop g) ((B.U.setTop { g with stack := rest }).pushFrame (.throwing q))) := by
  obtain ⟨mk, methM, cM, hnamed, hmethM, -, -, -, -, -, -, hsigM⟩ := Cond.codeWith_spec hcode
  have hstatic : methM.isStatic = true := Cond.static_spec hnamed hmethM hstat
  obtain ⟨kP, hkP, -⟩ := className_of_methodNamed hnamed
  have hinitP : kP.init = .initialized := Cond.initialized_spec (findClass_of_methodNamed hnamed) hkP hinit
  obtain ⟨vm₁, X₁, hstep₁⟩ := X.invokestatic hexec hown hlink hnamed hmethM hstatic hkP hinitP hy (g := g) hg (argsL := argsL) (rest := rest) (hlen _ hsigM) hstack hdg
  rcases hK m meth c ⟨T.setVm vm₁, locs, cells, slots⟩ { g with stack := rest } (.invokestatic index) mk argsL.toArray X₁ hg hsize hdg hW (X₁.named hnamed) (hpre vm₁ X₁.warmed) with ⟨v, B, X', hpost, hsteps⟩ | ⟨q, B, X', hpost, hsteps⟩
  · exact Or.inl ⟨v, vm₁, B, X₁.warmed, X', hpost, fun target h => hstep₁ _ fun acts => by rw [doInvoke_state]; exact hsteps.trans h⟩
  · exact Or.inr ⟨q, vm₁, B, X₁.warmed, X', hpost, hstep₁ _ fun acts => by rw [doInvoke_state]; exact hsteps⟩
theorem vx_callVW (X : Stand p l e R s m args below meth c T locs cells slots) (hexec : p.tables.exec = Jvm.exec) {own C : String} {index : Nat} {y : MethodName} {bytes : ByteArray} {maxL : Nat} {ret : Option FieldType} {hh : List (Nat × Nat × Nat × Nat)}
    (hown : s.vm.findClass own = some m.cls) (hlink : (Cond.methodLink own index y).before args s = true) (hinst : (Cond.instanceMethod y).before args s = true) (hsel : (Cond.selects C y y).before args s = true)
    (hcode : (Cond.codeWith y bytes maxL ret hh).before args s = true) (hy : y.cls ≠ "java/lang/invoke/MethodHandle" ∧ y.cls ≠ "java/lang/invoke/VarHandle")
    {W9 : Nat} {Pre : Pt → Array Value → Prop} {Post : Pt → Array Value → Option Value → Pt → Prop} (hK : Back l R p e below s args y 3 W9 Pre Post)
    {b : Addr} {cellB : Cell} (hcell : T.heap[b]? = some cellB) (hobj : cellB.vm.isStatics = false) (hcls : s.vm.findClass C = some cellB.cls)
    {g : JFrame} (hg : g.method = m) (hsize : g.locals.size = c.maxLocals) {argsL rest : List Value} (hlen : ∀ sig, parseMethodDescriptor y.desc = some sig → argsL.length = sig.parameters.length)
    (hstack : g.stack = argsL.reverse ++ .ref b :: rest) (hW : 2 * g.monitorRoom + (rest.map fun v => v.category).sum ≤ W9) (hdg : decode c.code g.pc = .ok (.invokevirtual index, 3))
    (hpre : ∀ vm₁, s.WarmedH vm₁ → Pre ⟨T.setVm vm₁, locs, cells, slots⟩ (Value.ref b :: argsL).toArray) :
    ∃ (v : Option Value) (vm₁ : Vm) (B : Pt), s.WarmedH vm₁ ∧ Stand p l e R s m args below meth c B.U B.locs B.cells B.slots ∧ Post ⟨T.setVm vm₁, locs, cells, slots⟩ (Value.ref b :: argsL).toArray v B ∧
      ∀ target, Steps p.tables e below (B.U.setTop { g with pc := g.pc + 3, stack := v.toList ++ rest }) target → Steps p.tables e below (T.setTop g) target := by
  obtain ⟨mk, methM, hnamed, hmethM, hstM, habM⟩ := Cond.instanceMethod_spec hinst
  obtain ⟨m8, methM', cM, hn8, hmethM', -, -, -, -, -, -, hsigM⟩ := Cond.codeWith_spec hcode
  cases Option.some.inj (hn8.symm.trans hnamed)
  cases hmethM.symm.trans hmethM'
  obtain ⟨c2, r2, m2, q1, q2, q3, q4, kP, hkP, hkPi⟩ := Cond.selects_spec hsel
  cases hcls.symm.trans q1
  cases (State.methodFound?_of_named hnamed hy).symm.trans q2
  cases hnamed.symm.trans q3
  have hselP : selectMethod e.platform s.vm cellB.cls mk = .method mk := by rw [Launch.admits_selectMethod X.admits]; exact q4
  obtain ⟨vm₁, X₁, hstep₁⟩ := X.invokevirtual hexec hown hlink hnamed hmethM hstM hkP hkPi hy (a := b) (cell := cellB) hcell
    (fun z h => by rw [h] at hobj; cases hobj) hselP hmethM habM hkP hkPi (g := g) hg (argsL := argsL) (rest := rest) (hlen _ hsigM) hstack hdg
  obtain ⟨v, B, X', hpost, hsteps⟩ := hK m meth c ⟨T.setVm vm₁, locs, cells, slots⟩ { g with stack := rest } (.invokevirtual index) mk (Value.ref b :: argsL).toArray X₁ hg hsize hdg hW (X₁.named hnamed) (hpre vm₁ X₁.warmed)
  exact ⟨v, vm₁, B, X₁.warmed, X', hpost, fun target h => hstep₁ _ fun acts => by rw [doInvoke_state]; exact hsteps.trans h⟩
abbrev vx_CVW (R : Room) (s : State) (args : Array Value) (own C : String) (index : Nat) (y : MethodName) (bytes : ByteArray) (maxL : Nat) (ret : Option FieldType) (hh : List (Nat × Nat × Nat × Nat)) (ws : List Cond) (rm : Room) (mc ms n : Nat) : Prop :=
  (rm.cells = mc ∧ rm.slots = ms ∧ rm.frames + 1 ≤ R.frames ∧ 8 + (maxL + 11) + rm.locals ≤ R.locals ∧ (∀ w ∈ ws, ∀ (a' : Array Value) (U : State), s.WarmedH U.vm → w.before a' U = true) ∧ Cond.codeWith y bytes maxL ret hh ∈ ws) ∧
  (Cond.codeWith y bytes maxL ret hh).before args s = true ∧ (Cond.initialized y.cls).before args s = true ∧ (y.cls ≠ "java/lang/invoke/MethodHandle" ∧ y.cls ≠ "java/lang/invoke/VarHandle") ∧
  (∀ sig, parseMethodDescriptor y.desc = some sig → n = sig.parameters.length) ∧ (Cond.methodLink own index y).before args s = true ∧ (Cond.instanceMethod y).before args s = true ∧ (Cond.selects C y y).before args s = true
theorem vx_cwVW {own C : String} {index maxL mc ms : Nat} {y : MethodName} {bytes : ByteArray} {ret : Option FieldType} {hh : List (Nat × Nat × Nat × Nat)} {Ts ws ws' : List Cond} {rm : Room} (n : Nat) (ht : ∀ w ∈ Ts, w.before args s = true) (hT : GoodIn Ts (wsV own index C y ws)) (hw : ws = Cond.codeWith y bytes maxL ret hh :: ws') (hrc : rm.cells = mc) (hrs : rm.slots = ms)
    (hd : y.cls = C ∧ y.cls ≠ "java/lang/invoke/MethodHandle" ∧ y.cls ≠ "java/lang/invoke/VarHandle" ∧ (parseMethodDescriptor y.desc).map (fun d => d.parameters.length) = some n) (hR : rm.frames + 1 ≤ R.frames ∧ 8 + (maxL + 11) + rm.locals ≤ R.locals) :
    vx_CVW R s args own C index y bytes maxL ret hh ws rm mc ms n := by
  obtain ⟨hC, hd⟩ := hd
  subst hC
  have ok : ∀ w ∈ wsV own index y.cls y ws, w.before args s = true := fun w h => ht w (hT w h).1
  have hG : GoodIn Ts ws := fun w h => hT w (by unfold wsV; exact List.mem_append_right _ h)
  have hc : Cond.codeWith y bytes maxL ret hh ∈ ws := by rw [hw]; exact List.mem_cons_self
  refine ⟨⟨hrc, hrs, hR.1, hR.2, pay_in ht hG, hc⟩, ht _ (hG _ hc).1, ok _ (by simp [wsV]), ⟨hd.1, hd.2.1⟩, fun sig h => ?_, ok _ (by simp [wsV]), ok _ (by simp [wsV]), ok _ (by simp [wsV])⟩
  have h2 := hd.2.2
  rw [h] at h2
  exact (Option.some.inj h2).symm
theorem vx_runVW {y : MethodName} {bytes cc : ByteArray} {maxL nL mc ms n index : Nat} {ret : Option FieldType} {hh : List (Nat × Nat × Nat × Nat)} {ws : List Cond} {rm : Room} {Pc : Array Value → State → Prop} {Qc : Array Value → State → Outcome → State → Prop} {free : Addr → Prop} {Ts : List Cond} {own C : String} {b : Addr} {As rest : List Value} {g : JFrame}
    (S : CallFix p m c cc nL s args Ts own) (hM : Met l y ws rm Pc Qc mc ms free) (cw : vx_CVW R s args own C index y bytes maxL ret hh ws rm mc ms n) (hp : PreV s H C b Pc As)
    (hg : g.method = m) (hn : As.length = n) (hsize : g.locals.size = nL) (hstack : g.stack = As.reverse ++ .ref b :: rest) (hW : 2 * g.monitorRoom + (rest.map fun v => v.category).sum ≤ 8) (hdg : decode cc g.pc = .ok (.invokevirtual index, 3)) (hf : cells + mc ≤ R.cells ∧ slots + ms ≤ R.slots) :
    va_Run p l e R s m args below meth c H locs cells slots mc ms g rest (Qc (Value.ref b :: As).toArray) free := by
  obtain ⟨⟨hrc, hrs, hfr, hlo, hws, hcw⟩, hcode, hini, hy, hlen, hl, hin, hse⟩ := cw
  have hK : Back l R p e below s args y 3 8 (PreOf R mc ms Pc) (PostOf Qc mc ms free) := va_backW (hh := hh) (bytes := bytes) (maxL := maxL) (ret := ret) hM hp.1 hrc hrs hfr hlo hws hcw (fun a' U hW => word_at hW (Or.inl (by first | rfl | simp [Cond.onTables, Cond.keeps, Cond.steady])) hini)
  obtain ⟨hx, hb, hml, ho, -⟩ := S
  obtain ⟨-, ⟨cellB, hcB, hoB, hclB⟩, hPc⟩ := hp
  intro T hT X
  obtain ⟨v, vm₁, ⟨U', l2, c2, s2⟩, hW₁, X', ⟨g', mk, t, L, e1, e2, hq, h1, hL, h2, h3⟩, st⟩ := vx_callVW X hx (C := C) (hh := hh) (bytes := bytes) (maxL := maxL) (ret := ret) ho hl hin hse hcode hy hK (by rw [hT]; exact hcB) hoB hclB hg (hsize.trans hml.symm) (argsL := As) (rest := rest) (fun sig h => hn.trans (hlen sig h)) hstack hW (by rw [hb]; exact hdg)
    (fun vm₁ hW₁ => ⟨hf.1, hf.2, hPc (T.setVm vm₁) hT hW₁⟩)
  dsimp only [Pt.U, Pt.locs, Pt.cells, Pt.slots] at X' e1 e2 h1 h2 h3 st
  subst h1; subst h2; subst h3
  exact ⟨v, (T.setVm vm₁).calling g' mk (Value.ref b :: As).toArray, t, U', L, hT, X', hL, e1, e2, hq, st⟩
section
variable {y : MethodName} {bytes cc : ByteArray} {maxL nL mc ms n index : Nat} {ret : Option FieldType} {ws : List Cond} {rm : Room} {Pc : Array Value → State → Prop} {Qc : Array Value → State → Outcome → State → Prop} {XC : String → State → State → Prop} {free : Addr → Prop} {Ts : List Cond} {own C : String} {b : Addr} {As rest : List Value} {g : JFrame}
theorem vx_runVX {hh : List (Nat × Nat × Nat × Nat)} (S : CallFix p m c cc nL s args Ts own) (hM : vx_Met l y ws rm Pc Qc XC mc ms free) (cw : vx_CVW R s args own C index y bytes maxL ret hh ws rm mc ms n) (hp : PreV s H C b Pc As)
    (hg : g.method = m) (hn : As.length = n) (hsize : g.locals.size = nL) (hstack : g.stack = As.reverse ++ .ref b :: rest) (hW : 2 * g.monitorRoom + (rest.map fun v => v.category).sum ≤ 8) (hdg : decode cc g.pc = .ok (.invokevirtual index, 3)) (hf : cells + mc ≤ R.cells ∧ slots + ms ≤ R.slots) :
    vx_Run p l e R s m args below meth c H locs cells slots mc ms g rest (Qc (Value.ref b :: As).toArray) XC free := by
  obtain ⟨⟨hrc, hrs, hfr, hlo, hws, hcw⟩, hcode, hini, hy, hlen, hl, hin, hse⟩ := cw
  have hK : vx_Back l R p e below s args y 3 8 (PreOf R mc ms Pc) (PostOf Qc mc ms free) (vx_Post XC mc ms free) := vx_backW (hh := hh) (bytes := bytes) (maxL := maxL) (ret := ret) hM hp.1 hrc hrs hfr hlo hws hcw (fun a' U hW => word_at hW (Or.inl (by first | rfl | simp [Cond.onTables, Cond.keeps, Cond.steady])) hini)
  obtain ⟨hx, hb, hml, ho, -⟩ := S
  obtain ⟨-, ⟨cellB, hcB, hoB, hclB⟩, hPc⟩ := hp
  intro T hT X
  rcases vx_callVX X hx (C := C) (hh := hh) (bytes := bytes) (maxL := maxL) (ret := ret) ho hl hin hse hcode hy hK (by rw [hT]; exact hcB) hoB hclB hg (hsize.trans hml.symm) (argsL := As) (rest := rest) (fun sig h => hn.trans (hlen sig h)) hstack hW (by rw [hb]; exact hdg)
    (fun vm₁ hW₁ => ⟨hf.1, hf.2, hPc (T.setVm vm₁) hT hW₁⟩) with ⟨v, vm₁, ⟨U', l2, c2, s2⟩, hW₁, X', ⟨g', mk, t, L, e1, e2, hq, h1, hL, h2, h3⟩, st⟩ | ⟨q, vm₁, ⟨U', l2, c2, s2⟩, hW₁, X', ⟨g', mk, t, L, E, ce, e1, e2, hq, hce, hcv, hcl, h1, hL, h2, h3⟩, st⟩
  · dsimp only [Pt.U, Pt.locs, Pt.cells, Pt.slots] at X' e1 e2 h1 h2 h3 st
    subst h1; subst h2; subst h3
    exact Or.inl ⟨v, (T.setVm vm₁).calling g' mk (Value.ref b :: As).toArray, t, U', L, hT, X', hL, e1, e2, hq, st⟩
  · dsimp only [Pt.U, Pt.locs, Pt.cells, Pt.slots] at X' e1 e2 h1 h2 h3 st hcl
    subst h1; subst h2; subst h3
    exact Or.inr ⟨q, (T.setVm vm₁).calling g' mk (Value.ref b :: As).toArray, t, U', L, E, ce, hT, X', hL, e1, e2, hq, hce, hcv, vx_cls hW₁ hcl, st⟩
theorem vx_runSX {hh : List (Nat × Nat × Nat × Nat)} (S : CallFix p m c cc nL s args Ts own) (hM : vx_Met l y ws rm Pc Qc XC mc ms free) (cw : vx_CSW R s args own index y bytes maxL ret hh ws rm mc ms n) (hp : PreS s H Pc As)
    (hg : g.method = m) (hn : As.length = n) (hsize : g.locals.size = nL) (hstack : g.stack = As.reverse ++ rest) (hW : 2 * g.monitorRoom + (rest.map fun v => v.category).sum ≤ 8) (hdg : decode cc g.pc = .ok (.invokestatic index, 3)) (hf : cells + mc ≤ R.cells ∧ slots + ms ≤ R.slots) :
    vx_Run p l e R s m args below meth c H locs cells slots mc ms g rest (Qc As.toArray) XC free := by
  obtain ⟨⟨hrc, hrs, hfr, hlo, hws, hcw⟩, hcode, hini, hy, hlen, hl, hstt⟩ := cw
  have hK : vx_Back l R p e below s args y 3 8 (PreOf R mc ms Pc) (PostOf Qc mc ms free) (vx_Post XC mc ms free) := vx_backW (hh := hh) (bytes := bytes) (maxL := maxL) (ret := ret) hM hp.1 hrc hrs hfr hlo hws hcw (fun a' U hW => word_at hW (Or.inl (by first | rfl | simp [Cond.onTables, Cond.keeps, Cond.steady])) hini)
  obtain ⟨hx, hb, hml, ho, -⟩ := S
  intro T hT X
  rcases vx_callSX X hx (hh := hh) (bytes := bytes) (maxL := maxL) (ret := ret) ho hl hstt hini hcode hy hK hg (hsize.trans hml.symm) (argsL := As) (rest := rest) (fun sig h => hn.trans (hlen sig h)) hstack hW (by rw [hb]; exact hdg)
    (fun vm₁ hW₁ => ⟨hf.1, hf.2, hp.2 (T.setVm vm₁) hT hW₁⟩) with ⟨v, vm₁, ⟨U', l2, c2, s2⟩, hW₁, X', ⟨g', mk, t, L, e1, e2, hq, h1, hL, h2, h3⟩, st⟩ | ⟨q, vm₁, ⟨U', l2, c2, s2⟩, hW₁, X', ⟨g', mk, t, L, E, ce, e1, e2, hq, hce, hcv, hcl, h1, hL, h2, h3⟩, st⟩
  · dsimp only [Pt.U, Pt.locs, Pt.cells, Pt.slots] at X' e1 e2 h1 h2 h3 st
    subst h1; subst h2; subst h3
    exact Or.inl ⟨v, (T.setVm vm₁).calling g' mk As.toArray, t, U', L, hT, X', hL, e1, e2, hq, st⟩
  · dsimp only [Pt.U, Pt.locs, Pt.cells, Pt.slots] at X' e1 e2 h1 h2 h3 st hcl
    subst h1; subst h2; subst h3
    exact Or.inr ⟨q, (T.setVm vm₁).calling g' mk As.toArray, t, U', L, E, ce, hT, X', hL, e1, e2, hq, hce, hcv, vx_cls hW₁ hcl, st⟩
end
end VXH
theorem vx_ofWH {l : Launch} {y : MethodName} {ws ws' : List Cond} {rm : Room} {Pc : Array Value → State → Prop} {Qc : Array Value → State → Outcome → State → Prop} {XC : String → State → State → Prop} {mc ms : Nat} {free : Addr → Prop} {cc : ByteArray} {maxL : Nat} {ret : Option FieldType} {hh : List (Nat × Nat × Nat × Nat)}
    (hy : plainName y.cls = true) (hw : ws = Cond.codeWith y cc maxL ret hh :: ws')
    (body : ∀ p e s m args below meth c s₁, BodyLoose p l y (headSpec ws rm) cc maxL ret e s m args below meth c s₁ → c.maxLocals = maxL → Pc args s →
      W p l e (headSpec ws rm).room s m args below meth c s.heap [] 0 0 (vx_MQ below Qc XC args s mc ms free) (entryFrame m args maxL)) : vx_Met l y ws rm Pc Qc XC mc ms free := by
  refine MetFree.of_bodyS (code := cc) (maxLocals := maxL) (ret := ret) hy ?_ ?_
  · intro args s m h hn
    obtain ⟨m9, meth, c, hn9, h1, h2, h3, h4, -, h5, h6, -⟩ := Cond.codeWith_spec (atoms_spec (ws := ws) h _ (by rw [hw]; exact List.mem_cons_self))
    cases hn.symm.trans hn9
    exact ⟨meth, c, h1, h2, h3, h4, h5, h6⟩
  · intro p e s m args below meth c s₁ B hml hP _
    have hh0 : s₁.heap = s.heap := by rw [B.state]; rfl
    obtain ⟨t, a1, o, b1, b2, b3⟩ := body p e s m args below meth c s₁ B hml hP s₁ hh0 (Stand.of_body B)
    exact ⟨t, o, a1, b1, b2, b3⟩
/-! ===== END ===== -/
end
section
/-! ===== BEGIN printed: names, fields, word lists, decode rows ===== -/
def RX0 : String := "Steamfield$Block"
def TX0 : u_T := fun k => match k with
  | 0 => ("Steamfield$Block", "water", "LSteamfield$Water;", true)
  | 1 => ("Steamfield$Block", "volume", "I", false)
  | _ => ("Steamfield$Block", "owner", "I", false)
def tyX0 : Nat → FieldType := fun k => match k with
  | 0 => .object "Steamfield$Water"
  | 1 => .int
  | _ => .int
abbrev wsX00 : List Cond := u_ws RX0 TX0 3
theorem nmX0 : ∀ a, a < 3 → ∀ b, b < 3 → a ≠ b → (TX0 a).2.1 ≠ (TX0 b).2.1 := by decide +kernel
theorem tyX0_ok : ∀ k, k < 3 → parseFieldDescriptor (TX0 k).2.2.1 = some (tyX0 k) := by decide +kernel
abbrev cX0_init : ByteArray := prog_2_method_1_code
def yX0_init : MethodName := ⟨RX0, "<init>", "()V"⟩
abbrev cX0_copyFrom : ByteArray := prog_2_method_2_code
def yX0_copyFrom : MethodName := ⟨RX0, "copyFrom", "(LSteamfield$Block;)V"⟩
abbrev cX0_pressure : ByteArray := prog_2_method_3_code
def yX0_pressure : MethodName := ⟨RX0, "pressure", "()I"⟩
abbrev cX0_warmth : ByteArray := prog_2_method_4_code
def yX0_warmth : MethodName := ⟨RX0, "warmth", "()I"⟩
abbrev cX0_take : ByteArray := prog_2_method_5_code
def yX0_take : MethodName := ⟨RX0, "take", "(ILSteamfield$Water;)V"⟩
def RX1 : String := "Steamfield$Books"
def TX1 : u_T := fun k => match k with
  | 0 => ("Steamfield$Books", "told", "LSteamfield$Water;", true)
  | 1 => ("Steamfield$Books", "spilled", "LSteamfield$Water;", true)
  | 2 => ("Steamfield$Books", "sprung", "LSteamfield$Water;", true)
  | 3 => ("Steamfield$Books", "used", "I", false)
  | _ => ("Steamfield$Books", "vented", "I", false)
def tyX1 : Nat → FieldType := fun k => match k with
  | 0 => .object "Steamfield$Water"
  | 1 => .object "Steamfield$Water"
  | 2 => .object "Steamfield$Water"
  | 3 => .int
  | _ => .int
abbrev wsX10 : List Cond := u_ws RX1 TX1 5
theorem nmX1 : ∀ a, a < 5 → ∀ b, b < 5 → a ≠ b → (TX1 a).2.1 ≠ (TX1 b).2.1 := by decide +kernel
theorem tyX1_ok : ∀ k, k < 5 → parseFieldDescriptor (TX1 k).2.2.1 = some (tyX1 k) := by decide +kernel
abbrev cX1_init : ByteArray := prog_3_method_1_code
def yX1_init : MethodName := ⟨RX1, "<init>", "()V"⟩
abbrev cX1_copyFrom : ByteArray := prog_3_method_2_code
def yX1_copyFrom : MethodName := ⟨RX1, "copyFrom", "(LSteamfield$Books;)V"⟩
def RX2 : String := "Steamfield$Face"
def TX2 : u_T := fun k => match k with
  | 0 => ("Steamfield$Face", "one", "I", false)
  | 1 => ("Steamfield$Face", "other", "I", false)
  | 2 => ("Steamfield$Face", "open", "I", false)
  | _ => ("Steamfield$Face", "flow", "I", false)
def tyX2 : Nat → FieldType := fun k => match k with
  | 0 => .int
  | 1 => .int
  | 2 => .int
  | _ => .int
abbrev wsX20 : List Cond := u_ws RX2 TX2 4
theorem nmX2 : ∀ a, a < 4 → ∀ b, b < 4 → a ≠ b → (TX2 a).2.1 ≠ (TX2 b).2.1 := by decide +kernel
theorem tyX2_ok : ∀ k, k < 4 → parseFieldDescriptor (TX2 k).2.2.1 = some (tyX2 k) := by decide +kernel
abbrev cX2_init : ByteArray := prog_4_method_1_code
def yX2_init : MethodName := ⟨RX2, "<init>", "()V"⟩
abbrev cX2_copyFrom : ByteArray := prog_4_method_2_code
def yX2_copyFrom : MethodName := ⟨RX2, "copyFrom", "(LSteamfield$Face;)V"⟩
def RX3 : String := "Steamfield$Land"
def TX3 : u_T := fun k => match k with
  | 0 => ("Steamfield$Land", "blocks", "[LSteamfield$Block;", true)
  | 1 => ("Steamfield$Land", "faces", "[LSteamfield$Face;", true)
  | 2 => ("Steamfield$Land", "wells", "[LSteamfield$Well;", true)
  | 3 => ("Steamfield$Land", "springs", "[LSteamfield$Spring;", true)
  | 4 => ("Steamfield$Land", "pond", "LSteamfield$Water;", true)
  | 5 => ("Steamfield$Land", "plant", "LSteamfield$Plant;", true)
  | 6 => ("Steamfield$Land", "books", "LSteamfield$Books;", true)
  | 7 => ("Steamfield$Land", "coins", "[I", true)
  | 8 => ("Steamfield$Land", "shocks", "[I", true)
  | 9 => ("Steamfield$Land", "load", "LSteamfield$Water;", true)
  | 10 => ("Steamfield$Land", "blockCount", "I", false)
  | 11 => ("Steamfield$Land", "faceCount", "I", false)
  | 12 => ("Steamfield$Land", "wellCount", "I", false)
  | 13 => ("Steamfield$Land", "springCount", "I", false)
  | _ => ("Steamfield$Land", "now", "I", false)
def tyX3 : Nat → FieldType := fun k => match k with
  | 0 => .array (.object "Steamfield$Block")
  | 1 => .array (.object "Steamfield$Face")
  | 2 => .array (.object "Steamfield$Well")
  | 3 => .array (.object "Steamfield$Spring")
  | 4 => .object "Steamfield$Water"
  | 5 => .object "Steamfield$Plant"
  | 6 => .object "Steamfield$Books"
  | 7 => .array .int
  | 8 => .array .int
  | 9 => .object "Steamfield$Water"
  | 10 => .int
  | 11 => .int
  | 12 => .int
  | 13 => .int
  | _ => .int
abbrev wsX30 : List Cond := u_ws RX3 TX3 15
theorem nmX3 : ∀ a, a < 15 → ∀ b, b < 15 → a ≠ b → (TX3 a).2.1 ≠ (TX3 b).2.1 := by decide +kernel
theorem tyX3_ok : ∀ k, k < 15 → parseFieldDescriptor (TX3 k).2.2.1 = some (tyX3 k) := by decide +kernel
abbrev cX3_init : ByteArray := prog_5_method_1_code
def yX3_init : MethodName := ⟨RX3, "<init>", "()V"⟩
abbrev cX3_copyFrom : ByteArray := prog_5_method_2_code
def yX3_copyFrom : MethodName := ⟨RX3, "copyFrom", "(LSteamfield$Land;)V"⟩
abbrev cX3_light : ByteArray := prog_5_method_3_code
def yX3_light : MethodName := ⟨RX3, "light", "()I"⟩
abbrev cX3_lastShock : ByteArray := prog_5_method_4_code
def yX3_lastShock : MethodName := ⟨RX3, "lastShock", "()I"⟩
abbrev cX3_shareOf : ByteArray := prog_5_method_5_code
def yX3_shareOf : MethodName := ⟨RX3, "shareOf", "(I)I"⟩
abbrev cX3_lackedEver : ByteArray := prog_5_method_6_code
def yX3_lackedEver : MethodName := ⟨RX3, "lackedEver", "()I"⟩
abbrev cX3_inBlocks : ByteArray := prog_5_method_7_code
def yX3_inBlocks : MethodName := ⟨RX3, "inBlocks", "(I)I"⟩
abbrev cX3_accountedFor : ByteArray := prog_5_method_8_code
def yX3_accountedFor : MethodName := ⟨RX3, "accountedFor", "(I)I"⟩
abbrev cX3_turnAll : ByteArray := prog_5_method_9_code
def yX3_turnAll : MethodName := ⟨RX3, "turnAll", "(II)V"⟩
abbrev cX3_step : ByteArray := prog_5_method_10_code
def yX3_step : MethodName := ⟨RX3, "step", "()V"⟩
abbrev cX3_flowThrough : ByteArray := prog_5_method_11_code
def yX3_flowThrough : MethodName := ⟨RX3, "flowThrough", "(LSteamfield$Face;)V"⟩
abbrev cX3_produce : ByteArray := prog_5_method_12_code
def yX3_produce : MethodName := ⟨RX3, "produce", "(LSteamfield$Well;)I"⟩
abbrev cX3_drive : ByteArray := prog_5_method_13_code
def yX3_drive : MethodName := ⟨RX3, "drive", "(I)V"⟩
abbrev cX3_warmTheTown : ByteArray := prog_5_method_14_code
def yX3_warmTheTown : MethodName := ⟨RX3, "warmTheTown", "()V"⟩
abbrev cX3_spill : ByteArray := prog_5_method_15_code
def yX3_spill : MethodName := ⟨RX3, "spill", "()V"⟩
abbrev cX3_drain : ByteArray := prog_5_method_16_code
def yX3_drain : MethodName := ⟨RX3, "drain", "(I)V"⟩
abbrev cX3_inject : ByteArray := prog_5_method_17_code
def yX3_inject : MethodName := ⟨RX3, "inject", "(LSteamfield$Well;I)I"⟩
abbrev cX3_letFlow : ByteArray := prog_5_method_18_code
def yX3_letFlow : MethodName := ⟨RX3, "letFlow", "(LSteamfield$Spring;)V"⟩
abbrev cX3_shareOut : ByteArray := prog_5_method_19_code
def yX3_shareOut : MethodName := ⟨RX3, "shareOut", "()V"⟩
abbrev cX3_payForLacks : ByteArray := prog_5_method_20_code
def yX3_payForLacks : MethodName := ⟨RX3, "payForLacks", "()V"⟩
def RX4 : String := "Steamfield$Plant"
def TX4 : u_T := fun k => match k with
  | 0 => ("Steamfield$Plant", "size", "I", false)
  | 1 => ("Steamfield$Plant", "isRunning", "Z", false)
  | 2 => ("Steamfield$Plant", "power", "I", false)
  | 3 => ("Steamfield$Plant", "powerEver", "I", false)
  | 4 => ("Steamfield$Plant", "need", "I", false)
  | _ => ("Steamfield$Plant", "townHeat", "I", false)
def tyX4 : Nat → FieldType := fun k => match k with
  | 0 => .int
  | 1 => .boolean
  | 2 => .int
  | 3 => .int
  | 4 => .int
  | _ => .int
abbrev wsX40 : List Cond := u_ws RX4 TX4 6
theorem nmX4 : ∀ a, a < 6 → ∀ b, b < 6 → a ≠ b → (TX4 a).2.1 ≠ (TX4 b).2.1 := by decide +kernel
theorem tyX4_ok : ∀ k, k < 6 → parseFieldDescriptor (TX4 k).2.2.1 = some (tyX4 k) := by decide +kernel
abbrev cX4_init : ByteArray := prog_6_method_1_code
def yX4_init : MethodName := ⟨RX4, "<init>", "()V"⟩
abbrev cX4_copyFrom : ByteArray := prog_6_method_2_code
def yX4_copyFrom : MethodName := ⟨RX4, "copyFrom", "(LSteamfield$Plant;)V"⟩
def RX5 : String := "Steamfield$Spring"
def TX5 : u_T := fun k => match k with
  | 0 => ("Steamfield$Spring", "block", "I", false)
  | 1 => ("Steamfield$Spring", "level", "I", false)
  | 2 => ("Steamfield$Spring", "promise", "I", false)
  | 3 => ("Steamfield$Spring", "flow", "I", false)
  | 4 => ("Steamfield$Spring", "lacked", "I", false)
  | 5 => ("Steamfield$Spring", "flowEver", "I", false)
  | _ => ("Steamfield$Spring", "lackedEver", "I", false)
def tyX5 : Nat → FieldType := fun k => match k with
  | 0 => .int
  | 1 => .int
  | 2 => .int
  | 3 => .int
  | 4 => .int
  | 5 => .int
  | _ => .int
abbrev wsX50 : List Cond := u_ws RX5 TX5 7
theorem nmX5 : ∀ a, a < 7 → ∀ b, b < 7 → a ≠ b → (TX5 a).2.1 ≠ (TX5 b).2.1 := by decide +kernel
theorem tyX5_ok : ∀ k, k < 7 → parseFieldDescriptor (TX5 k).2.2.1 = some (tyX5 k) := by decide +kernel
abbrev cX5_init : ByteArray := prog_7_method_1_code
def yX5_init : MethodName := ⟨RX5, "<init>", "()V"⟩
abbrev cX5_copyFrom : ByteArray := prog_7_method_2_code
def yX5_copyFrom : MethodName := ⟨RX5, "copyFrom", "(LSteamfield$Spring;)V"⟩
abbrev cX5_note : ByteArray := prog_7_method_3_code
def yX5_note : MethodName := ⟨RX5, "note", "(I)V"⟩
def RX6 : String := "Steamfield$Water"
def TX6 : u_T := fun k => match k with
  | 0 => ("Steamfield$Water", "mass", "I", false)
  | 1 => ("Steamfield$Water", "heat", "I", false)
  | 2 => ("Steamfield$Water", "salt", "I", false)
  | _ => ("Steamfield$Water", "tracer", "I", false)
def tyX6 : Nat → FieldType := fun k => match k with
  | 0 => .int
  | 1 => .int
  | 2 => .int
  | _ => .int
abbrev wsX60 : List Cond := u_ws RX6 TX6 4
theorem nmX6 : ∀ a, a < 4 → ∀ b, b < 4 → a ≠ b → (TX6 a).2.1 ≠ (TX6 b).2.1 := by decide +kernel
theorem tyX6_ok : ∀ k, k < 4 → parseFieldDescriptor (TX6 k).2.2.1 = some (tyX6 k) := by decide +kernel
abbrev cX6_init : ByteArray := prog_8_method_1_code
def yX6_init : MethodName := ⟨RX6, "<init>", "()V"⟩
abbrev cX6_copyFrom : ByteArray := prog_8_method_2_code
def yX6_copyFrom : MethodName := ⟨RX6, "copyFrom", "(LSteamfield$Water;)V"⟩
abbrev cX6_add : ByteArray := prog_8_method_3_code
def yX6_add : MethodName := ⟨RX6, "add", "(LSteamfield$Water;)V"⟩
abbrev cX6_remove : ByteArray := prog_8_method_4_code
def yX6_remove : MethodName := ⟨RX6, "remove", "(LSteamfield$Water;)V"⟩
abbrev cX6_part : ByteArray := prog_8_method_5_code
def yX6_part : MethodName := ⟨RX6, "part", "(I)I"⟩
abbrev cX6_shareOf : ByteArray := prog_8_method_6_code
def yX6_shareOf : MethodName := ⟨RX6, "shareOf", "(II)I"⟩
def RX7 : String := "Steamfield$Well"
def TX7 : u_T := fun k => match k with
  | 0 => ("Steamfield$Well", "block", "I", false)
  | 1 => ("Steamfield$Well", "isInjector", "Z", false)
  | 2 => ("Steamfield$Well", "valve", "I", false)
  | 3 => ("Steamfield$Well", "scale", "I", false)
  | 4 => ("Steamfield$Well", "crust", "I", false)
  | 5 => ("Steamfield$Well", "flow", "I", false)
  | 6 => ("Steamfield$Well", "steam", "I", false)
  | 7 => ("Steamfield$Well", "tracer", "I", false)
  | _ => ("Steamfield$Well", "flowEver", "I", false)
def tyX7 : Nat → FieldType := fun k => match k with
  | 0 => .int
  | 1 => .boolean
  | 2 => .int
  | 3 => .int
  | 4 => .int
  | 5 => .int
  | 6 => .int
  | 7 => .int
  | _ => .int
abbrev wsX70 : List Cond := u_ws RX7 TX7 9
theorem nmX7 : ∀ a, a < 9 → ∀ b, b < 9 → a ≠ b → (TX7 a).2.1 ≠ (TX7 b).2.1 := by decide +kernel
theorem tyX7_ok : ∀ k, k < 9 → parseFieldDescriptor (TX7 k).2.2.1 = some (tyX7 k) := by decide +kernel
abbrev cX7_init : ByteArray := prog_9_method_1_code
def yX7_init : MethodName := ⟨RX7, "<init>", "()V"⟩
abbrev cX7_copyFrom : ByteArray := prog_9_method_2_code
def yX7_copyFrom : MethodName := ⟨RX7, "copyFrom", "(LSteamfield$Well;)V"⟩
abbrev cX7_note : ByteArray := prog_9_method_3_code
def yX7_note : MethodName := ⟨RX7, "note", "(LSteamfield$Water;I)V"⟩
abbrev cX7_growCrust : ByteArray := prog_9_method_4_code
def yX7_growCrust : MethodName := ⟨RX7, "growCrust", "()V"⟩
def RX8 : String := "Steamfield"
def TX8 : u_T := fun k => match k with
  | 0 => ("Steamfield", "land", "LSteamfield$Land;", true)
  | _ => ("Steamfield", "trial", "LSteamfield$Land;", true)
def tyX8 : Nat → FieldType := fun k => match k with
  | 0 => .object "Steamfield$Land"
  | _ => .object "Steamfield$Land"
abbrev wsX80 : List Cond := u_ws RX8 TX8 2
theorem nmX8 : ∀ a, a < 2 → ∀ b, b < 2 → a ≠ b → (TX8 a).2.1 ≠ (TX8 b).2.1 := by decide +kernel
theorem tyX8_ok : ∀ k, k < 2 → parseFieldDescriptor (TX8 k).2.2.1 = some (tyX8 k) := by decide +kernel
abbrev cX8_init : ByteArray := prog_1_method_1_code
def yX8_init : MethodName := ⟨RX8, "<init>", "()V"⟩
abbrev cX8_block : ByteArray := prog_1_method_2_code
def yX8_block : MethodName := ⟨RX8, "block", "(IIIII)I"⟩
abbrev cX8_face : ByteArray := prog_1_method_3_code
def yX8_face : MethodName := ⟨RX8, "face", "(III)I"⟩
abbrev cX8_well : ByteArray := prog_1_method_4_code
def yX8_well : MethodName := ⟨RX8, "well", "(IZ)I"⟩
abbrev cX8_spring : ByteArray := prog_1_method_5_code
def yX8_spring : MethodName := ⟨RX8, "spring", "(III)I"⟩
abbrev cX8_valve : ByteArray := prog_1_method_6_code
def yX8_valve : MethodName := ⟨RX8, "valve", "(II)I"⟩
abbrev cX8_trace : ByteArray := prog_1_method_7_code
def yX8_trace : MethodName := ⟨RX8, "trace", "(II)I"⟩
abbrev cX8_clean : ByteArray := prog_1_method_8_code
def yX8_clean : MethodName := ⟨RX8, "clean", "(I)I"⟩
abbrev cX8_turbine : ByteArray := prog_1_method_9_code
def yX8_turbine : MethodName := ⟨RX8, "turbine", "(I)I"⟩
abbrev cX8_town : ByteArray := prog_1_method_10_code
def yX8_town : MethodName := ⟨RX8, "town", "(I)I"⟩
abbrev cX8_run : ByteArray := prog_1_method_11_code
def yX8_run : MethodName := ⟨RX8, "run", "(I)I"⟩
abbrev cX8_ofBlock : ByteArray := prog_1_method_12_code
def yX8_ofBlock : MethodName := ⟨RX8, "ofBlock", "(II)I"⟩
abbrev cX8_ofWell : ByteArray := prog_1_method_13_code
def yX8_ofWell : MethodName := ⟨RX8, "ofWell", "(II)I"⟩
abbrev cX8_ofSpring : ByteArray := prog_1_method_14_code
def yX8_ofSpring : MethodName := ⟨RX8, "ofSpring", "(II)I"⟩
abbrev cX8_ofFace : ByteArray := prog_1_method_15_code
def yX8_ofFace : MethodName := ⟨RX8, "ofFace", "(IZ)I"⟩
abbrev cX8_pond : ByteArray := prog_1_method_16_code
def yX8_pond : MethodName := ⟨RX8, "pond", "(I)I"⟩
abbrev cX8_ofOwner : ByteArray := prog_1_method_17_code
def yX8_ofOwner : MethodName := ⟨RX8, "ofOwner", "(II)I"⟩
abbrev cX8_mass : ByteArray := prog_1_method_18_code
def yX8_mass : MethodName := ⟨RX8, "mass", "(I)I"⟩
abbrev cX8_isClosed : ByteArray := prog_1_method_19_code
def yX8_isClosed : MethodName := ⟨RX8, "isClosed", "()Z"⟩
abbrev cX8_many : ByteArray := prog_1_method_20_code
def yX8_many : MethodName := ⟨RX8, "many", "(I)I"⟩
abbrev cX8_meanWarmth : ByteArray := prog_1_method_21_code
def yX8_meanWarmth : MethodName := ⟨RX8, "meanWarmth", "()D"⟩
abbrev cX8_wouldGive : ByteArray := prog_1_method_22_code
def yX8_wouldGive : MethodName := ⟨RX8, "wouldGive", "(I)I"⟩
abbrev cX8_coldIn : ByteArray := prog_1_method_23_code
def yX8_coldIn : MethodName := ⟨RX8, "coldIn", "(II)I"⟩
abbrev cX8_causedBy : ByteArray := prog_1_method_24_code
def yX8_causedBy : MethodName := ⟨RX8, "causedBy", "(III)I"⟩
abbrev cX8_bestValves : ByteArray := prog_1_method_25_code
def yX8_bestValves : MethodName := ⟨RX8, "bestValves", "(I)I"⟩
abbrev cX8_digest : ByteArray := prog_1_method_26_code
def yX8_digest : MethodName := ⟨RX8, "digest", "()J"⟩
abbrev cX8_needRange : ByteArray := prog_1_method_27_code
def yX8_needRange : MethodName := ⟨RX8, "needRange", "(III)V"⟩
abbrev cX8_needIndex : ByteArray := prog_1_method_28_code
def yX8_needIndex : MethodName := ⟨RX8, "needIndex", "(II)V"⟩
abbrev cX8_needRoom : ByteArray := prog_1_method_29_code
def yX8_needRoom : MethodName := ⟨RX8, "needRoom", "(II)V"⟩
abbrev cX8_powerIn : ByteArray := prog_1_method_30_code
def yX8_powerIn : MethodName := ⟨RX8, "powerIn", "(LSteamfield$Land;I)I"⟩
def RX9 : String := "SteamfieldModel$Field"
def TX9 : u_T := fun k => match k with
  | _ => ("", "", "", false)
def tyX9 : Nat → FieldType := fun k => match k with
  | _ => .int
abbrev wsX90 : List Cond := u_ws RX9 TX9 0
theorem nmX9 : ∀ a, a < 0 → ∀ b, b < 0 → a ≠ b → (TX9 a).2.1 ≠ (TX9 b).2.1 := by decide +kernel
theorem tyX9_ok : ∀ k, k < 0 → parseFieldDescriptor (TX9 k).2.2.1 = some (tyX9 k) := by decide +kernel
def RX10 : String := "SteamfieldModel"
def TX10 : u_T := fun k => match k with
  | _ => ("", "", "", false)
def tyX10 : Nat → FieldType := fun k => match k with
  | _ => .int
abbrev wsX100 : List Cond := u_ws RX10 TX10 0
theorem nmX10 : ∀ a, a < 0 → ∀ b, b < 0 → a ≠ b → (TX10 a).2.1 ≠ (TX10 b).2.1 := by decide +kernel
theorem tyX10_ok : ∀ k, k < 0 → parseFieldDescriptor (TX10 k).2.2.1 = some (tyX10 k) := by decide +kernel
def RJ9 : String := "java/lang/Math"
def TJ9 : u_T := fun k => match k with
  | _ => ("", "", "", false)
def tyJ9 : Nat → FieldType := fun k => match k with
  | _ => .int
abbrev wsJ90 : List Cond := u_ws RJ9 TJ9 0
theorem nmJ9 : ∀ a, a < 0 → ∀ b, b < 0 → a ≠ b → (TJ9 a).2.1 ≠ (TJ9 b).2.1 := by decide +kernel
theorem tyJ9_ok : ∀ k, k < 0 → parseFieldDescriptor (TJ9 k).2.2.1 = some (tyJ9 k) := by decide +kernel
abbrev cJ9_abs_0f7a4 : ByteArray := prog_17_method_59_code
def yJ9_abs_0f7a4 : MethodName := ⟨RJ9, "abs", "(I)I"⟩
abbrev cJ9_max_7cf53 : ByteArray := prog_17_method_65_code
def yJ9_max_7cf53 : MethodName := ⟨RJ9, "max", "(II)I"⟩
abbrev cJ9_min_7cf53 : ByteArray := prog_17_method_69_code
def yJ9_min_7cf53 : MethodName := ⟨RJ9, "min", "(II)I"⟩
def RJ0 : String := "java/lang/String"
def TJ0 : u_T := fun k => match k with
  | _ => ("", "", "", false)
def tyJ0 : Nat → FieldType := fun k => match k with
  | _ => .int
abbrev wsJ00 : List Cond := u_ws RJ0 TJ0 0
theorem nmJ0 : ∀ a, a < 0 → ∀ b, b < 0 → a ≠ b → (TJ0 a).2.1 ≠ (TJ0 b).2.1 := by decide +kernel
theorem tyJ0_ok : ∀ k, k < 0 → parseFieldDescriptor (TJ0 k).2.2.1 = some (tyJ0 k) := by decide +kernel
def RJ10 : String := "java/lang/System"
def TJ10 : u_T := fun k => match k with
  | _ => ("", "", "", false)
def tyJ10 : Nat → FieldType := fun k => match k with
  | _ => .int
abbrev wsJ100 : List Cond := u_ws RJ10 TJ10 0
theorem nmJ10 : ∀ a, a < 0 → ∀ b, b < 0 → a ≠ b → (TJ10 a).2.1 ≠ (TJ10 b).2.1 := by decide +kernel
theorem tyJ10_ok : ∀ k, k < 0 → parseFieldDescriptor (TJ10 k).2.2.1 = some (tyJ10 k) := by decide +kernel
def RL : String := "SteamfieldLaw"
abbrev cL_below : ByteArray := method_2_code
def yL_below : MethodName := ⟨RL, "below", "(II)I"⟩
abbrev cL_cell : ByteArray := method_3_code
def yL_cell : MethodName := ⟨RL, "cell", "([II)I"⟩
abbrev cL_of : ByteArray := method_4_code
def yL_of : MethodName := ⟨RL, "of", "([I)LSteamfield;"⟩
abbrev cL_law : ByteArray := code
def yL_law : MethodName := ⟨RL, "law", "([I)Z"⟩
abbrev cL_isCleaned : ByteArray := method_6_code
def yL_isCleaned : MethodName := ⟨RL, "isCleaned", "(LSteamfield;I)Z"⟩
abbrev cL_isSo : ByteArray := method_7_code
def yL_isSo : MethodName := ⟨RL, "isSo", "(LSteamfield;III)Z"⟩
def wsX6_init : List Cond := .code yX6_init cX6_init 1 none :: ([.methodLink RX6 1 objectInit, .instanceMethod objectInit, .code objectInit ⟨#[0xb1]⟩ 1 none])
def wsX0_init : List Cond := .code yX0_init cX0_init 1 none :: ([.methodLink RX0 1 objectInit, .instanceMethod objectInit, .code objectInit ⟨#[0xb1]⟩ 1 none, .classLink RX0 7 RX6, .instantiable RX6 4, .initialized RX6, .fieldLink RX0 10 "Steamfield$Block" "water" "LSteamfield$Water;", .instanceMethod yX6_init, .code yX6_init cX6_init 1 none, .methodLink RX6 1 objectInit] ++ wsX60 ++ wsX00)
def wsX6_copyFrom : List Cond := .code yX6_copyFrom cX6_copyFrom 2 none :: ([.fieldLink RX6 7 "Steamfield$Water" "mass" "I", .fieldLink RX6 13 "Steamfield$Water" "heat" "I", .fieldLink RX6 16 "Steamfield$Water" "salt" "I", .fieldLink RX6 19 "Steamfield$Water" "tracer" "I"] ++ wsX60)
def wsX0_copyFrom : List Cond := .code yX0_copyFrom cX0_copyFrom 2 none :: ([.fieldLink RX0 10 "Steamfield$Block" "water" "LSteamfield$Water;", .fieldLink RX0 20 "Steamfield$Block" "volume" "I", .fieldLink RX0 24 "Steamfield$Block" "owner" "I", .methodLink RX0 16 yX6_copyFrom, .instanceMethod yX6_copyFrom, .selects RX6 yX6_copyFrom yX6_copyFrom, .initialized RX6, .code yX6_copyFrom cX6_copyFrom 2 none, .fieldLink RX6 7 "Steamfield$Water" "mass" "I", .fieldLink RX6 13 "Steamfield$Water" "heat" "I", .fieldLink RX6 16 "Steamfield$Water" "salt" "I", .fieldLink RX6 19 "Steamfield$Water" "tracer" "I"] ++ wsX00 ++ wsX60)
def wsX0_pressure : List Cond := .code yX0_pressure cX0_pressure 1 (some .int) :: ([.fieldLink RX0 20 "Steamfield$Block" "volume" "I", .fieldLink RX0 10 "Steamfield$Block" "water" "LSteamfield$Water;"] ++ wsX00 ++ wsX60)
def wsX0_warmth : List Cond := .code yX0_warmth cX0_warmth 2 (some .int) :: ([.fieldLink RX0 20 "Steamfield$Block" "volume" "I", .fieldLink RX0 10 "Steamfield$Block" "water" "LSteamfield$Water;"] ++ wsX00 ++ wsX60)
def wsX6_shareOf : List Cond := .code yX6_shareOf cX6_shareOf 3 (some .int) :: ([.fieldLink RX6 7 "Steamfield$Water" "mass" "I"] ++ wsX60)
def wsX6_remove : List Cond := .code yX6_remove cX6_remove 2 none :: ([.fieldLink RX6 7 "Steamfield$Water" "mass" "I", .fieldLink RX6 13 "Steamfield$Water" "heat" "I", .fieldLink RX6 16 "Steamfield$Water" "salt" "I", .fieldLink RX6 19 "Steamfield$Water" "tracer" "I"] ++ wsX60)
def wsX0_take : List Cond := .code yX0_take cX0_take 4 none :: ([.fieldLink RX0 10 "Steamfield$Block" "water" "LSteamfield$Water;", .methodLink RX0 33 Lib.Math.min.name, .static Lib.Math.min.name, .initialized "java/lang/Math", .code Lib.Math.min.name Lib.Math.min.code 2 (some .int), .methodLink RX0 39 yX0_warmth, .instanceMethod yX0_warmth, .selects RX0 yX0_warmth yX0_warmth, .initialized RX0, .code yX0_warmth cX0_warmth 2 (some .int), .fieldLink RX0 20 "Steamfield$Block" "volume" "I", .methodLink RX0 46 yX6_shareOf, .instanceMethod yX6_shareOf, .selects RX6 yX6_shareOf yX6_shareOf, .initialized RX6, .code yX6_shareOf cX6_shareOf 3 (some .int), .fieldLink RX6 7 "Steamfield$Water" "mass" "I", .methodLink RX0 52 yX6_remove, .instanceMethod yX6_remove, .selects RX6 yX6_remove yX6_remove, .code yX6_remove cX6_remove 2 none, .fieldLink RX6 13 "Steamfield$Water" "heat" "I", .fieldLink RX6 16 "Steamfield$Water" "salt" "I", .fieldLink RX6 19 "Steamfield$Water" "tracer" "I"] ++ wsX00 ++ wsX60)
def wsX1_init : List Cond := .code yX1_init cX1_init 1 none :: ([.methodLink RX1 1 objectInit, .instanceMethod objectInit, .code objectInit ⟨#[0xb1]⟩ 1 none, .classLink RX1 7 RX6, .instantiable RX6 4, .initialized RX6, .fieldLink RX1 10 "Steamfield$Books" "told" "LSteamfield$Water;", .fieldLink RX1 16 "Steamfield$Books" "spilled" "LSteamfield$Water;", .fieldLink RX1 19 "Steamfield$Books" "sprung" "LSteamfield$Water;", .instanceMethod yX6_init, .code yX6_init cX6_init 1 none, .methodLink RX6 1 objectInit] ++ wsX60 ++ wsX10)
def wsX1_copyFrom : List Cond := .code yX1_copyFrom cX1_copyFrom 2 none :: ([.fieldLink RX1 10 "Steamfield$Books" "told" "LSteamfield$Water;", .fieldLink RX1 16 "Steamfield$Books" "spilled" "LSteamfield$Water;", .fieldLink RX1 19 "Steamfield$Books" "sprung" "LSteamfield$Water;", .fieldLink RX1 26 "Steamfield$Books" "used" "I", .fieldLink RX1 30 "Steamfield$Books" "vented" "I", .methodLink RX1 22 yX6_copyFrom, .instanceMethod yX6_copyFrom, .selects RX6 yX6_copyFrom yX6_copyFrom, .initialized RX6, .code yX6_copyFrom cX6_copyFrom 2 none, .fieldLink RX6 7 "Steamfield$Water" "mass" "I", .fieldLink RX6 13 "Steamfield$Water" "heat" "I", .fieldLink RX6 16 "Steamfield$Water" "salt" "I", .fieldLink RX6 19 "Steamfield$Water" "tracer" "I"] ++ wsX10 ++ wsX60)
def wsX2_init : List Cond := .code yX2_init cX2_init 1 none :: ([.methodLink RX2 1 objectInit, .instanceMethod objectInit, .code objectInit ⟨#[0xb1]⟩ 1 none])
def wsX2_copyFrom : List Cond := .code yX2_copyFrom cX2_copyFrom 2 none :: ([.fieldLink RX2 7 "Steamfield$Face" "one" "I", .fieldLink RX2 13 "Steamfield$Face" "other" "I", .fieldLink RX2 16 "Steamfield$Face" "open" "I", .fieldLink RX2 19 "Steamfield$Face" "flow" "I"] ++ wsX20)
def wsX4_init : List Cond := .code yX4_init cX4_init 1 none :: ([.methodLink RX4 1 objectInit, .instanceMethod objectInit, .code objectInit ⟨#[0xb1]⟩ 1 none, .fieldLink RX4 7 "Steamfield$Plant" "size" "I", .fieldLink RX4 13 "Steamfield$Plant" "isRunning" "Z"] ++ wsX40)
def wsX7_init : List Cond := .code yX7_init cX7_init 1 none :: ([.methodLink RX7 3 objectInit, .instanceMethod objectInit, .code objectInit ⟨#[0xb1]⟩ 1 none])
def wsX5_init : List Cond := .code yX5_init cX5_init 1 none :: ([.methodLink RX5 1 objectInit, .instanceMethod objectInit, .code objectInit ⟨#[0xb1]⟩ 1 none])
def wsX3_init_r1 : List Cond := [Cond.methodLink RX3 3 objectInit, Cond.instanceMethod objectInit, Cond.code objectInit ⟨#[0xb1]⟩ 1 none, Cond.classLink RX3 9 RX0, Cond.fieldLink RX3 11 "Steamfield$Land" "blocks" "[LSteamfield$Block;", Cond.classLink RX3 17 RX2, Cond.fieldLink RX3 19 "Steamfield$Land" "faces" "[LSteamfield$Face;", Cond.classLink RX3 23 RX7, Cond.fieldLink RX3 25 "Steamfield$Land" "wells" "[LSteamfield$Well;", Cond.classLink RX3 29 RX5, Cond.fieldLink RX3 31 "Steamfield$Land" "springs" "[LSteamfield$Spring;", Cond.classLink RX3 35 RX6, Cond.instantiable RX6 4, Cond.initialized RX6, Cond.fieldLink RX3 38 "Steamfield$Land" "pond" "LSteamfield$Water;", Cond.classLink RX3 42 RX4, Cond.instantiable RX4 6, Cond.initialized RX4, Cond.fieldLink RX3 45 "Steamfield$Land" "plant" "LSteamfield$Plant;", Cond.classLink RX3 49 RX1, Cond.instantiable RX1 5, Cond.initialized RX1, Cond.fieldLink RX3 52 "Steamfield$Land" "books" "LSteamfield$Books;", Cond.arrayClass .int]
def wsX3_init_r2 : List Cond := [Cond.fieldLink RX3 56 "Steamfield$Land" "coins" "[I", Cond.fieldLink RX3 60 "Steamfield$Land" "shocks" "[I", Cond.fieldLink RX3 63 "Steamfield$Land" "load" "LSteamfield$Water;", Cond.instantiable RX0 3, Cond.initialized RX0, Cond.instantiable RX2 4, Cond.initialized RX2, Cond.instantiable RX7 9, Cond.initialized RX7, Cond.instantiable RX5 7, Cond.initialized RX5, Cond.instanceMethod yX6_init, Cond.code yX6_init cX6_init 1 none, Cond.methodLink RX6 1 objectInit, Cond.instanceMethod yX4_init, Cond.code yX4_init cX4_init 1 none, Cond.methodLink RX4 1 objectInit, Cond.fieldLink RX4 7 "Steamfield$Plant" "size" "I", Cond.fieldLink RX4 13 "Steamfield$Plant" "isRunning" "Z", Cond.instanceMethod yX1_init, Cond.code yX1_init cX1_init 1 none, Cond.methodLink RX1 1 objectInit, Cond.classLink RX1 7 RX6, Cond.fieldLink RX1 10 "Steamfield$Books" "told" "LSteamfield$Water;"]
def wsX3_init_r3 : List Cond := [Cond.fieldLink RX1 16 "Steamfield$Books" "spilled" "LSteamfield$Water;", Cond.fieldLink RX1 19 "Steamfield$Books" "sprung" "LSteamfield$Water;", Cond.instanceMethod yX0_init, Cond.code yX0_init cX0_init 1 none, Cond.methodLink RX0 1 objectInit, Cond.classLink RX0 7 RX6, Cond.fieldLink RX0 10 "Steamfield$Block" "water" "LSteamfield$Water;", Cond.instanceMethod yX2_init, Cond.code yX2_init cX2_init 1 none, Cond.methodLink RX2 1 objectInit, Cond.instanceMethod yX7_init, Cond.code yX7_init cX7_init 1 none, Cond.methodLink RX7 3 objectInit, Cond.instanceMethod yX5_init, Cond.code yX5_init cX5_init 1 none, Cond.methodLink RX5 1 objectInit]
def wsX3_init : List Cond := .code yX3_init cX3_init 2 none :: ((wsX3_init_r1 ++ (wsX3_init_r2 ++ wsX3_init_r3)) ++ wsX30 ++ wsX60 ++ wsX40 ++ wsX10 ++ wsX00 ++ wsX20 ++ wsX70 ++ wsX50)
def wsX7_copyFrom : List Cond := .code yX7_copyFrom cX7_copyFrom 2 none :: ([.fieldLink RX7 9 "Steamfield$Well" "block" "I", .fieldLink RX7 15 "Steamfield$Well" "isInjector" "Z", .fieldLink RX7 19 "Steamfield$Well" "valve" "I", .fieldLink RX7 22 "Steamfield$Well" "scale" "I", .fieldLink RX7 25 "Steamfield$Well" "crust" "I", .fieldLink RX7 28 "Steamfield$Well" "flow" "I", .fieldLink RX7 31 "Steamfield$Well" "steam" "I", .fieldLink RX7 34 "Steamfield$Well" "tracer" "I", .fieldLink RX7 37 "Steamfield$Well" "flowEver" "I"] ++ wsX70)
def wsX5_copyFrom : List Cond := .code yX5_copyFrom cX5_copyFrom 2 none :: ([.fieldLink RX5 7 "Steamfield$Spring" "block" "I", .fieldLink RX5 13 "Steamfield$Spring" "level" "I", .fieldLink RX5 16 "Steamfield$Spring" "promise" "I", .fieldLink RX5 19 "Steamfield$Spring" "flow" "I", .fieldLink RX5 22 "Steamfield$Spring" "lacked" "I", .fieldLink RX5 25 "Steamfield$Spring" "flowEver" "I", .fieldLink RX5 28 "Steamfield$Spring" "lackedEver" "I"] ++ wsX50)
def wsX4_copyFrom : List Cond := .code yX4_copyFrom cX4_copyFrom 2 none :: ([.fieldLink RX4 7 "Steamfield$Plant" "size" "I", .fieldLink RX4 13 "Steamfield$Plant" "isRunning" "Z", .fieldLink RX4 17 "Steamfield$Plant" "power" "I", .fieldLink RX4 20 "Steamfield$Plant" "powerEver" "I", .fieldLink RX4 23 "Steamfield$Plant" "need" "I", .fieldLink RX4 26 "Steamfield$Plant" "townHeat" "I"] ++ wsX40)
def wsX3_copyFrom_r1 : List Cond := [Cond.fieldLink RX3 11 "Steamfield$Land" "blocks" "[LSteamfield$Block;", Cond.fieldLink RX3 19 "Steamfield$Land" "faces" "[LSteamfield$Face;", Cond.fieldLink RX3 25 "Steamfield$Land" "wells" "[LSteamfield$Well;", Cond.fieldLink RX3 31 "Steamfield$Land" "springs" "[LSteamfield$Spring;", Cond.fieldLink RX3 38 "Steamfield$Land" "pond" "LSteamfield$Water;", Cond.fieldLink RX3 45 "Steamfield$Land" "plant" "LSteamfield$Plant;", Cond.fieldLink RX3 52 "Steamfield$Land" "books" "LSteamfield$Books;", Cond.fieldLink RX3 56 "Steamfield$Land" "coins" "[I", Cond.methodLink RX3 92 arraycopyName, Cond.native arraycopyName, Cond.static arraycopyName, Cond.initialized "java/lang/System", Cond.fieldLink RX3 60 "Steamfield$Land" "shocks" "[I", Cond.fieldLink RX3 98 "Steamfield$Land" "blockCount" "I", Cond.fieldLink RX3 102 "Steamfield$Land" "faceCount" "I", Cond.fieldLink RX3 105 "Steamfield$Land" "wellCount" "I", Cond.fieldLink RX3 108 "Steamfield$Land" "springCount" "I", Cond.fieldLink RX3 111 "Steamfield$Land" "now" "I", Cond.methodLink RX3 70 yX0_copyFrom, Cond.instanceMethod yX0_copyFrom, Cond.selects RX0 yX0_copyFrom yX0_copyFrom, Cond.initialized RX0, Cond.code yX0_copyFrom cX0_copyFrom 2 none, Cond.fieldLink RX0 10 "Steamfield$Block" "water" "LSteamfield$Water;"]
def wsX3_copyFrom_r2 : List Cond := [Cond.fieldLink RX0 20 "Steamfield$Block" "volume" "I", Cond.fieldLink RX0 24 "Steamfield$Block" "owner" "I", Cond.methodLink RX0 16 yX6_copyFrom, Cond.instanceMethod yX6_copyFrom, Cond.selects RX6 yX6_copyFrom yX6_copyFrom, Cond.initialized RX6, Cond.code yX6_copyFrom cX6_copyFrom 2 none, Cond.fieldLink RX6 7 "Steamfield$Water" "mass" "I", Cond.fieldLink RX6 13 "Steamfield$Water" "heat" "I", Cond.fieldLink RX6 16 "Steamfield$Water" "salt" "I", Cond.fieldLink RX6 19 "Steamfield$Water" "tracer" "I", Cond.methodLink RX3 74 yX2_copyFrom, Cond.instanceMethod yX2_copyFrom, Cond.selects RX2 yX2_copyFrom yX2_copyFrom, Cond.initialized RX2, Cond.code yX2_copyFrom cX2_copyFrom 2 none, Cond.fieldLink RX2 7 "Steamfield$Face" "one" "I", Cond.fieldLink RX2 13 "Steamfield$Face" "other" "I", Cond.fieldLink RX2 16 "Steamfield$Face" "open" "I", Cond.fieldLink RX2 19 "Steamfield$Face" "flow" "I", Cond.methodLink RX3 77 yX7_copyFrom, Cond.instanceMethod yX7_copyFrom, Cond.selects RX7 yX7_copyFrom yX7_copyFrom, Cond.initialized RX7]
def wsX3_copyFrom_r3 : List Cond := [Cond.code yX7_copyFrom cX7_copyFrom 2 none, Cond.fieldLink RX7 9 "Steamfield$Well" "block" "I", Cond.fieldLink RX7 15 "Steamfield$Well" "isInjector" "Z", Cond.fieldLink RX7 19 "Steamfield$Well" "valve" "I", Cond.fieldLink RX7 22 "Steamfield$Well" "scale" "I", Cond.fieldLink RX7 25 "Steamfield$Well" "crust" "I", Cond.fieldLink RX7 28 "Steamfield$Well" "flow" "I", Cond.fieldLink RX7 31 "Steamfield$Well" "steam" "I", Cond.fieldLink RX7 34 "Steamfield$Well" "tracer" "I", Cond.fieldLink RX7 37 "Steamfield$Well" "flowEver" "I", Cond.methodLink RX3 80 yX5_copyFrom, Cond.instanceMethod yX5_copyFrom, Cond.selects RX5 yX5_copyFrom yX5_copyFrom, Cond.initialized RX5, Cond.code yX5_copyFrom cX5_copyFrom 2 none, Cond.fieldLink RX5 7 "Steamfield$Spring" "block" "I", Cond.fieldLink RX5 13 "Steamfield$Spring" "level" "I", Cond.fieldLink RX5 16 "Steamfield$Spring" "promise" "I", Cond.fieldLink RX5 19 "Steamfield$Spring" "flow" "I", Cond.fieldLink RX5 22 "Steamfield$Spring" "lacked" "I", Cond.fieldLink RX5 25 "Steamfield$Spring" "flowEver" "I", Cond.fieldLink RX5 28 "Steamfield$Spring" "lackedEver" "I", Cond.methodLink RX3 83 yX6_copyFrom, Cond.methodLink RX3 86 yX4_copyFrom]
def wsX3_copyFrom_r4 : List Cond := [Cond.instanceMethod yX4_copyFrom, Cond.selects RX4 yX4_copyFrom yX4_copyFrom, Cond.initialized RX4, Cond.code yX4_copyFrom cX4_copyFrom 2 none, Cond.fieldLink RX4 7 "Steamfield$Plant" "size" "I", Cond.fieldLink RX4 13 "Steamfield$Plant" "isRunning" "Z", Cond.fieldLink RX4 17 "Steamfield$Plant" "power" "I", Cond.fieldLink RX4 20 "Steamfield$Plant" "powerEver" "I", Cond.fieldLink RX4 23 "Steamfield$Plant" "need" "I", Cond.fieldLink RX4 26 "Steamfield$Plant" "townHeat" "I", Cond.methodLink RX3 89 yX1_copyFrom, Cond.instanceMethod yX1_copyFrom, Cond.selects RX1 yX1_copyFrom yX1_copyFrom, Cond.initialized RX1, Cond.code yX1_copyFrom cX1_copyFrom 2 none, Cond.fieldLink RX1 10 "Steamfield$Books" "told" "LSteamfield$Water;", Cond.fieldLink RX1 16 "Steamfield$Books" "spilled" "LSteamfield$Water;", Cond.fieldLink RX1 19 "Steamfield$Books" "sprung" "LSteamfield$Water;", Cond.fieldLink RX1 26 "Steamfield$Books" "used" "I", Cond.fieldLink RX1 30 "Steamfield$Books" "vented" "I", Cond.methodLink RX1 22 yX6_copyFrom]
def wsX3_copyFrom : List Cond := .code yX3_copyFrom cX3_copyFrom 3 none :: ((wsX3_copyFrom_r1 ++ (wsX3_copyFrom_r2 ++ (wsX3_copyFrom_r3 ++ wsX3_copyFrom_r4))) ++ wsX30 ++ wsX00 ++ wsX60 ++ wsX20 ++ wsX70 ++ wsX50 ++ wsX40 ++ wsX10)
def wsX3_light : List Cond := .code yX3_light cX3_light 3 (some .int) :: ([.fieldLink RX3 60 "Steamfield$Land" "shocks" "[I"] ++ wsX30)
def wsX3_lastShock : List Cond := .code yX3_lastShock cX3_lastShock 1 (some .int) :: ([.fieldLink RX3 60 "Steamfield$Land" "shocks" "[I", .fieldLink RX3 111 "Steamfield$Land" "now" "I"] ++ wsX30)
def wsX3_shareOf : List Cond := .code yX3_shareOf cX3_shareOf 4 (some .int) :: ([.fieldLink RX3 98 "Steamfield$Land" "blockCount" "I", .fieldLink RX3 11 "Steamfield$Land" "blocks" "[LSteamfield$Block;"] ++ wsX30 ++ wsX00)
def wsX3_lackedEver : List Cond := .code yX3_lackedEver cX3_lackedEver 3 (some .int) :: ([.fieldLink RX3 108 "Steamfield$Land" "springCount" "I", .fieldLink RX3 31 "Steamfield$Land" "springs" "[LSteamfield$Spring;"] ++ wsX30 ++ wsX50)
def wsX6_part : List Cond := .code yX6_part cX6_part 2 (some .int) :: ([.fieldLink RX6 7 "Steamfield$Water" "mass" "I", .fieldLink RX6 13 "Steamfield$Water" "heat" "I", .fieldLink RX6 16 "Steamfield$Water" "salt" "I", .fieldLink RX6 19 "Steamfield$Water" "tracer" "I"] ++ wsX60)
def wsX3_inBlocks : List Cond := .code yX3_inBlocks cX3_inBlocks 4 (some .int) :: ([.fieldLink RX3 98 "Steamfield$Land" "blockCount" "I", .fieldLink RX3 11 "Steamfield$Land" "blocks" "[LSteamfield$Block;", .methodLink RX3 126 yX6_part, .instanceMethod yX6_part, .selects RX6 yX6_part yX6_part, .initialized RX6, .code yX6_part cX6_part 2 (some .int), .fieldLink RX6 7 "Steamfield$Water" "mass" "I", .fieldLink RX6 13 "Steamfield$Water" "heat" "I", .fieldLink RX6 16 "Steamfield$Water" "salt" "I", .fieldLink RX6 19 "Steamfield$Water" "tracer" "I"] ++ wsX30 ++ wsX00 ++ wsX60)
def wsX3_accountedFor : List Cond := .code yX3_accountedFor cX3_accountedFor 2 (some .int) :: ([.fieldLink RX3 38 "Steamfield$Land" "pond" "LSteamfield$Water;", .fieldLink RX3 52 "Steamfield$Land" "books" "LSteamfield$Books;", .methodLink RX3 130 yX3_inBlocks, .instanceMethod yX3_inBlocks, .selects RX3 yX3_inBlocks yX3_inBlocks, .initialized RX3, .code yX3_inBlocks cX3_inBlocks 4 (some .int), .fieldLink RX3 98 "Steamfield$Land" "blockCount" "I", .fieldLink RX3 11 "Steamfield$Land" "blocks" "[LSteamfield$Block;", .methodLink RX3 126 yX6_part, .instanceMethod yX6_part, .selects RX6 yX6_part yX6_part, .initialized RX6, .code yX6_part cX6_part 2 (some .int), .fieldLink RX6 7 "Steamfield$Water" "mass" "I", .fieldLink RX6 13 "Steamfield$Water" "heat" "I", .fieldLink RX6 16 "Steamfield$Water" "salt" "I", .fieldLink RX6 19 "Steamfield$Water" "tracer" "I"] ++ wsX30 ++ wsX10 ++ wsX00 ++ wsX60)
def wsX3_turnAll : List Cond := .code yX3_turnAll cX3_turnAll 4 none :: ([.fieldLink RX3 105 "Steamfield$Land" "wellCount" "I", .fieldLink RX3 25 "Steamfield$Land" "wells" "[LSteamfield$Well;"] ++ wsX30 ++ wsX70)
def wsX6_add : List Cond := .code yX6_add cX6_add 2 none :: ([.fieldLink RX6 7 "Steamfield$Water" "mass" "I", .fieldLink RX6 13 "Steamfield$Water" "heat" "I", .fieldLink RX6 16 "Steamfield$Water" "salt" "I", .fieldLink RX6 19 "Steamfield$Water" "tracer" "I"] ++ wsX60)
def wsX3_flowThrough_r1 : List Cond := [Cond.fieldLink RX3 11 "Steamfield$Land" "blocks" "[LSteamfield$Block;", Cond.methodLink RX3 189 Lib.Math.abs.name, Cond.static Lib.Math.abs.name, Cond.initialized "java/lang/Math", Cond.code Lib.Math.abs.name Lib.Math.abs.code 1 (some .int), Cond.fieldLink RX3 63 "Steamfield$Land" "load" "LSteamfield$Water;", Cond.methodLink RX3 216 Lib.Math.min.name, Cond.static Lib.Math.min.name, Cond.code Lib.Math.min.name Lib.Math.min.code 2 (some .int), Cond.methodLink RX3 186 yX0_pressure, Cond.instanceMethod yX0_pressure, Cond.selects RX0 yX0_pressure yX0_pressure, Cond.initialized RX0, Cond.code yX0_pressure cX0_pressure 1 (some .int), Cond.fieldLink RX0 20 "Steamfield$Block" "volume" "I", Cond.fieldLink RX0 10 "Steamfield$Block" "water" "LSteamfield$Water;", Cond.methodLink RX3 197 yX0_take, Cond.instanceMethod yX0_take, Cond.selects RX0 yX0_take yX0_take, Cond.code yX0_take cX0_take 4 none, Cond.methodLink RX0 33 Lib.Math.min.name, Cond.methodLink RX0 39 yX0_warmth, Cond.instanceMethod yX0_warmth, Cond.selects RX0 yX0_warmth yX0_warmth]
def wsX3_flowThrough_r2 : List Cond := [Cond.code yX0_warmth cX0_warmth 2 (some .int), Cond.methodLink RX0 46 yX6_shareOf, Cond.instanceMethod yX6_shareOf, Cond.selects RX6 yX6_shareOf yX6_shareOf, Cond.initialized RX6, Cond.code yX6_shareOf cX6_shareOf 3 (some .int), Cond.fieldLink RX6 7 "Steamfield$Water" "mass" "I", Cond.methodLink RX0 52 yX6_remove, Cond.instanceMethod yX6_remove, Cond.selects RX6 yX6_remove yX6_remove, Cond.code yX6_remove cX6_remove 2 none, Cond.fieldLink RX6 13 "Steamfield$Water" "heat" "I", Cond.fieldLink RX6 16 "Steamfield$Water" "salt" "I", Cond.fieldLink RX6 19 "Steamfield$Water" "tracer" "I", Cond.methodLink RX3 201 yX6_add, Cond.instanceMethod yX6_add, Cond.selects RX6 yX6_add yX6_add, Cond.code yX6_add cX6_add 2 none, Cond.methodLink RX3 210 yX0_warmth]
def wsX3_flowThrough : List Cond := .code yX3_flowThrough cX3_flowThrough 9 none :: ((wsX3_flowThrough_r1 ++ wsX3_flowThrough_r2) ++ wsX30 ++ wsX20 ++ wsX00 ++ wsX60)
def wsX7_note : List Cond := .code yX7_note cX7_note 3 none :: ([.fieldLink RX7 28 "Steamfield$Well" "flow" "I", .fieldLink RX7 31 "Steamfield$Well" "steam" "I", .fieldLink RX7 34 "Steamfield$Well" "tracer" "I", .fieldLink RX7 37 "Steamfield$Well" "flowEver" "I"] ++ wsX60 ++ wsX70)
def wsX7_growCrust : List Cond := .code yX7_growCrust cX7_growCrust 1 none :: ([.fieldLink RX7 25 "Steamfield$Well" "crust" "I", .fieldLink RX7 22 "Steamfield$Well" "scale" "I", .methodLink RX7 46 Lib.Math.min.name, .static Lib.Math.min.name, .initialized "java/lang/Math", .code Lib.Math.min.name Lib.Math.min.code 2 (some .int)] ++ wsX70)
def wsX3_produce_r1 : List Cond := [Cond.fieldLink RX3 11 "Steamfield$Land" "blocks" "[LSteamfield$Block;", Cond.methodLink RX3 226 Lib.Math.max.name, Cond.static Lib.Math.max.name, Cond.initialized "java/lang/Math", Cond.code Lib.Math.max.name Lib.Math.max.code 2 (some .int), Cond.fieldLink RX3 63 "Steamfield$Land" "load" "LSteamfield$Water;", Cond.methodLink RX3 216 Lib.Math.min.name, Cond.static Lib.Math.min.name, Cond.code Lib.Math.min.name Lib.Math.min.code 2 (some .int), Cond.fieldLink RX3 38 "Steamfield$Land" "pond" "LSteamfield$Water;", Cond.methodLink RX3 210 yX0_warmth, Cond.instanceMethod yX0_warmth, Cond.selects RX0 yX0_warmth yX0_warmth, Cond.initialized RX0, Cond.code yX0_warmth cX0_warmth 2 (some .int), Cond.fieldLink RX0 20 "Steamfield$Block" "volume" "I", Cond.fieldLink RX0 10 "Steamfield$Block" "water" "LSteamfield$Water;", Cond.methodLink RX3 186 yX0_pressure, Cond.instanceMethod yX0_pressure, Cond.selects RX0 yX0_pressure yX0_pressure, Cond.code yX0_pressure cX0_pressure 1 (some .int), Cond.methodLink RX3 197 yX0_take, Cond.instanceMethod yX0_take, Cond.selects RX0 yX0_take yX0_take]
def wsX3_produce_r2 : List Cond := [Cond.code yX0_take cX0_take 4 none, Cond.methodLink RX0 33 Lib.Math.min.name, Cond.methodLink RX0 39 yX0_warmth, Cond.methodLink RX0 46 yX6_shareOf, Cond.instanceMethod yX6_shareOf, Cond.selects RX6 yX6_shareOf yX6_shareOf, Cond.initialized RX6, Cond.code yX6_shareOf cX6_shareOf 3 (some .int), Cond.fieldLink RX6 7 "Steamfield$Water" "mass" "I", Cond.methodLink RX0 52 yX6_remove, Cond.instanceMethod yX6_remove, Cond.selects RX6 yX6_remove yX6_remove, Cond.code yX6_remove cX6_remove 2 none, Cond.fieldLink RX6 13 "Steamfield$Water" "heat" "I", Cond.fieldLink RX6 16 "Steamfield$Water" "salt" "I", Cond.fieldLink RX6 19 "Steamfield$Water" "tracer" "I", Cond.methodLink RX3 229 yX7_note, Cond.instanceMethod yX7_note, Cond.selects RX7 yX7_note yX7_note, Cond.initialized RX7, Cond.code yX7_note cX7_note 3 none, Cond.fieldLink RX7 28 "Steamfield$Well" "flow" "I", Cond.fieldLink RX7 31 "Steamfield$Well" "steam" "I", Cond.fieldLink RX7 34 "Steamfield$Well" "tracer" "I"]
def wsX3_produce_r3 : List Cond := [Cond.fieldLink RX7 37 "Steamfield$Well" "flowEver" "I", Cond.methodLink RX3 236 yX7_growCrust, Cond.instanceMethod yX7_growCrust, Cond.selects RX7 yX7_growCrust yX7_growCrust, Cond.code yX7_growCrust cX7_growCrust 1 none, Cond.fieldLink RX7 25 "Steamfield$Well" "crust" "I", Cond.fieldLink RX7 22 "Steamfield$Well" "scale" "I", Cond.methodLink RX7 46 Lib.Math.min.name, Cond.methodLink RX3 201 yX6_add, Cond.instanceMethod yX6_add, Cond.selects RX6 yX6_add yX6_add, Cond.code yX6_add cX6_add 2 none]
def wsX3_produce : List Cond := .code yX3_produce cX3_produce 7 (some .int) :: ((wsX3_produce_r1 ++ (wsX3_produce_r2 ++ wsX3_produce_r3)) ++ wsX30 ++ wsX70 ++ wsX60 ++ wsX00)
def wsX3_drive : List Cond := .code yX3_drive cX3_drive 3 none :: ([.fieldLink RX3 45 "Steamfield$Land" "plant" "LSteamfield$Plant;", .methodLink RX3 216 Lib.Math.min.name, .static Lib.Math.min.name, .initialized "java/lang/Math", .code Lib.Math.min.name Lib.Math.min.code 2 (some .int), .fieldLink RX3 52 "Steamfield$Land" "books" "LSteamfield$Books;"] ++ wsX30 ++ wsX40 ++ wsX10)
def wsX3_warmTheTown : List Cond := .code yX3_warmTheTown cX3_warmTheTown 2 none :: ([.fieldLink RX3 38 "Steamfield$Land" "pond" "LSteamfield$Water;", .methodLink RX3 226 Lib.Math.max.name, .static Lib.Math.max.name, .initialized "java/lang/Math", .code Lib.Math.max.name Lib.Math.max.code 2 (some .int), .fieldLink RX3 45 "Steamfield$Land" "plant" "LSteamfield$Plant;", .methodLink RX3 216 Lib.Math.min.name, .static Lib.Math.min.name, .code Lib.Math.min.name Lib.Math.min.code 2 (some .int)] ++ wsX30 ++ wsX60 ++ wsX40)
def wsX3_drain : List Cond := .code yX3_drain cX3_drain 2 none :: ([.fieldLink RX3 63 "Steamfield$Land" "load" "LSteamfield$Water;", .fieldLink RX3 38 "Steamfield$Land" "pond" "LSteamfield$Water;", .methodLink RX3 266 yX6_shareOf, .instanceMethod yX6_shareOf, .selects RX6 yX6_shareOf yX6_shareOf, .initialized RX6, .code yX6_shareOf cX6_shareOf 3 (some .int), .fieldLink RX6 7 "Steamfield$Water" "mass" "I", .methodLink RX3 272 yX6_remove, .instanceMethod yX6_remove, .selects RX6 yX6_remove yX6_remove, .code yX6_remove cX6_remove 2 none, .fieldLink RX6 13 "Steamfield$Water" "heat" "I", .fieldLink RX6 16 "Steamfield$Water" "salt" "I", .fieldLink RX6 19 "Steamfield$Water" "tracer" "I"] ++ wsX30 ++ wsX60)
def wsX3_spill_r1 : List Cond := [Cond.fieldLink RX3 38 "Steamfield$Land" "pond" "LSteamfield$Water;", Cond.methodLink RX3 226 Lib.Math.max.name, Cond.static Lib.Math.max.name, Cond.initialized "java/lang/Math", Cond.code Lib.Math.max.name Lib.Math.max.code 2 (some .int), Cond.fieldLink RX3 52 "Steamfield$Land" "books" "LSteamfield$Books;", Cond.fieldLink RX3 63 "Steamfield$Land" "load" "LSteamfield$Water;", Cond.methodLink RX3 263 yX3_drain, Cond.instanceMethod yX3_drain, Cond.selects RX3 yX3_drain yX3_drain, Cond.initialized RX3, Cond.code yX3_drain cX3_drain 2 none, Cond.methodLink RX3 266 yX6_shareOf, Cond.instanceMethod yX6_shareOf, Cond.selects RX6 yX6_shareOf yX6_shareOf, Cond.initialized RX6, Cond.code yX6_shareOf cX6_shareOf 3 (some .int), Cond.fieldLink RX6 7 "Steamfield$Water" "mass" "I", Cond.methodLink RX3 272 yX6_remove, Cond.instanceMethod yX6_remove, Cond.selects RX6 yX6_remove yX6_remove, Cond.code yX6_remove cX6_remove 2 none, Cond.fieldLink RX6 13 "Steamfield$Water" "heat" "I", Cond.fieldLink RX6 16 "Steamfield$Water" "salt" "I"]
def wsX3_spill_r2 : List Cond := [Cond.fieldLink RX6 19 "Steamfield$Water" "tracer" "I", Cond.methodLink RX3 201 yX6_add, Cond.instanceMethod yX6_add, Cond.selects RX6 yX6_add yX6_add, Cond.code yX6_add cX6_add 2 none]
def wsX3_spill : List Cond := .code yX3_spill cX3_spill 1 none :: ((wsX3_spill_r1 ++ wsX3_spill_r2) ++ wsX30 ++ wsX60 ++ wsX10)
def wsX3_inject_r1 : List Cond := [Cond.fieldLink RX3 38 "Steamfield$Land" "pond" "LSteamfield$Water;", Cond.methodLink RX3 216 Lib.Math.min.name, Cond.static Lib.Math.min.name, Cond.initialized "java/lang/Math", Cond.code Lib.Math.min.name Lib.Math.min.code 2 (some .int), Cond.fieldLink RX3 11 "Steamfield$Land" "blocks" "[LSteamfield$Block;", Cond.fieldLink RX3 63 "Steamfield$Land" "load" "LSteamfield$Water;", Cond.methodLink RX3 263 yX3_drain, Cond.instanceMethod yX3_drain, Cond.selects RX3 yX3_drain yX3_drain, Cond.initialized RX3, Cond.code yX3_drain cX3_drain 2 none, Cond.methodLink RX3 266 yX6_shareOf, Cond.instanceMethod yX6_shareOf, Cond.selects RX6 yX6_shareOf yX6_shareOf, Cond.initialized RX6, Cond.code yX6_shareOf cX6_shareOf 3 (some .int), Cond.fieldLink RX6 7 "Steamfield$Water" "mass" "I", Cond.methodLink RX3 272 yX6_remove, Cond.instanceMethod yX6_remove, Cond.selects RX6 yX6_remove yX6_remove, Cond.code yX6_remove cX6_remove 2 none, Cond.fieldLink RX6 13 "Steamfield$Water" "heat" "I", Cond.fieldLink RX6 16 "Steamfield$Water" "salt" "I"]
def wsX3_inject_r2 : List Cond := [Cond.fieldLink RX6 19 "Steamfield$Water" "tracer" "I", Cond.methodLink RX3 186 yX0_pressure, Cond.instanceMethod yX0_pressure, Cond.selects RX0 yX0_pressure yX0_pressure, Cond.initialized RX0, Cond.code yX0_pressure cX0_pressure 1 (some .int), Cond.fieldLink RX0 20 "Steamfield$Block" "volume" "I", Cond.fieldLink RX0 10 "Steamfield$Block" "water" "LSteamfield$Water;", Cond.methodLink RX3 201 yX6_add, Cond.instanceMethod yX6_add, Cond.selects RX6 yX6_add yX6_add, Cond.code yX6_add cX6_add 2 none, Cond.methodLink RX3 229 yX7_note, Cond.instanceMethod yX7_note, Cond.selects RX7 yX7_note yX7_note, Cond.initialized RX7, Cond.code yX7_note cX7_note 3 none, Cond.fieldLink RX7 28 "Steamfield$Well" "flow" "I", Cond.fieldLink RX7 31 "Steamfield$Well" "steam" "I", Cond.fieldLink RX7 34 "Steamfield$Well" "tracer" "I", Cond.fieldLink RX7 37 "Steamfield$Well" "flowEver" "I"]
def wsX3_inject : List Cond := .code yX3_inject cX3_inject 7 (some .int) :: ((wsX3_inject_r1 ++ wsX3_inject_r2) ++ wsX70 ++ wsX30 ++ wsX60 ++ wsX00)
def wsX5_note : List Cond := .code yX5_note cX5_note 2 none :: ([.fieldLink RX5 19 "Steamfield$Spring" "flow" "I", .fieldLink RX5 16 "Steamfield$Spring" "promise" "I", .methodLink RX5 31 Lib.Math.max.name, .static Lib.Math.max.name, .initialized "java/lang/Math", .code Lib.Math.max.name Lib.Math.max.code 2 (some .int), .fieldLink RX5 22 "Steamfield$Spring" "lacked" "I", .fieldLink RX5 25 "Steamfield$Spring" "flowEver" "I", .fieldLink RX5 28 "Steamfield$Spring" "lackedEver" "I"] ++ wsX50)
def wsX3_letFlow_r1 : List Cond := [Cond.fieldLink RX3 11 "Steamfield$Land" "blocks" "[LSteamfield$Block;", Cond.methodLink RX3 226 Lib.Math.max.name, Cond.static Lib.Math.max.name, Cond.initialized "java/lang/Math", Cond.code Lib.Math.max.name Lib.Math.max.code 2 (some .int), Cond.fieldLink RX3 63 "Steamfield$Land" "load" "LSteamfield$Water;", Cond.fieldLink RX3 52 "Steamfield$Land" "books" "LSteamfield$Books;", Cond.methodLink RX3 186 yX0_pressure, Cond.instanceMethod yX0_pressure, Cond.selects RX0 yX0_pressure yX0_pressure, Cond.initialized RX0, Cond.code yX0_pressure cX0_pressure 1 (some .int), Cond.fieldLink RX0 20 "Steamfield$Block" "volume" "I", Cond.fieldLink RX0 10 "Steamfield$Block" "water" "LSteamfield$Water;", Cond.methodLink RX3 197 yX0_take, Cond.instanceMethod yX0_take, Cond.selects RX0 yX0_take yX0_take, Cond.code yX0_take cX0_take 4 none, Cond.methodLink RX0 33 Lib.Math.min.name, Cond.static Lib.Math.min.name, Cond.code Lib.Math.min.name Lib.Math.min.code 2 (some .int), Cond.methodLink RX0 39 yX0_warmth, Cond.instanceMethod yX0_warmth, Cond.selects RX0 yX0_warmth yX0_warmth]
def wsX3_letFlow_r2 : List Cond := [Cond.code yX0_warmth cX0_warmth 2 (some .int), Cond.methodLink RX0 46 yX6_shareOf, Cond.instanceMethod yX6_shareOf, Cond.selects RX6 yX6_shareOf yX6_shareOf, Cond.initialized RX6, Cond.code yX6_shareOf cX6_shareOf 3 (some .int), Cond.fieldLink RX6 7 "Steamfield$Water" "mass" "I", Cond.methodLink RX0 52 yX6_remove, Cond.instanceMethod yX6_remove, Cond.selects RX6 yX6_remove yX6_remove, Cond.code yX6_remove cX6_remove 2 none, Cond.fieldLink RX6 13 "Steamfield$Water" "heat" "I", Cond.fieldLink RX6 16 "Steamfield$Water" "salt" "I", Cond.fieldLink RX6 19 "Steamfield$Water" "tracer" "I", Cond.methodLink RX3 201 yX6_add, Cond.instanceMethod yX6_add, Cond.selects RX6 yX6_add yX6_add, Cond.code yX6_add cX6_add 2 none, Cond.methodLink RX3 279 yX5_note, Cond.instanceMethod yX5_note, Cond.selects RX5 yX5_note yX5_note, Cond.initialized RX5, Cond.code yX5_note cX5_note 2 none, Cond.fieldLink RX5 19 "Steamfield$Spring" "flow" "I"]
def wsX3_letFlow_r3 : List Cond := [Cond.fieldLink RX5 16 "Steamfield$Spring" "promise" "I", Cond.methodLink RX5 31 Lib.Math.max.name, Cond.fieldLink RX5 22 "Steamfield$Spring" "lacked" "I", Cond.fieldLink RX5 25 "Steamfield$Spring" "flowEver" "I", Cond.fieldLink RX5 28 "Steamfield$Spring" "lackedEver" "I"]
def wsX3_letFlow : List Cond := .code yX3_letFlow cX3_letFlow 3 none :: ((wsX3_letFlow_r1 ++ (wsX3_letFlow_r2 ++ wsX3_letFlow_r3)) ++ wsX30 ++ wsX50 ++ wsX10 ++ wsX60 ++ wsX00)
def wsX3_shareOut : List Cond := .code yX3_shareOut cX3_shareOut 5 none :: ([.fieldLink RX3 45 "Steamfield$Land" "plant" "LSteamfield$Plant;", .fieldLink RX3 56 "Steamfield$Land" "coins" "[I", .methodLink RX3 281 yX3_shareOf, .instanceMethod yX3_shareOf, .selects RX3 yX3_shareOf yX3_shareOf, .initialized RX3, .code yX3_shareOf cX3_shareOf 4 (some .int), .fieldLink RX3 98 "Steamfield$Land" "blockCount" "I", .fieldLink RX3 11 "Steamfield$Land" "blocks" "[LSteamfield$Block;"] ++ wsX30 ++ wsX40 ++ wsX00)
def wsX3_payForLacks : List Cond := .code yX3_payForLacks cX3_payForLacks 4 none :: ([.fieldLink RX3 108 "Steamfield$Land" "springCount" "I", .fieldLink RX3 31 "Steamfield$Land" "springs" "[LSteamfield$Spring;", .fieldLink RX3 11 "Steamfield$Land" "blocks" "[LSteamfield$Block;", .fieldLink RX3 56 "Steamfield$Land" "coins" "[I"] ++ wsX30 ++ wsX50 ++ wsX00)
def wsX3_step_r1 : List Cond := [Cond.fieldLink RX3 111 "Steamfield$Land" "now" "I", Cond.fieldLink RX3 102 "Steamfield$Land" "faceCount" "I", Cond.fieldLink RX3 19 "Steamfield$Land" "faces" "[LSteamfield$Face;", Cond.fieldLink RX3 105 "Steamfield$Land" "wellCount" "I", Cond.fieldLink RX3 25 "Steamfield$Land" "wells" "[LSteamfield$Well;", Cond.fieldLink RX3 60 "Steamfield$Land" "shocks" "[I", Cond.fieldLink RX3 108 "Steamfield$Land" "springCount" "I", Cond.fieldLink RX3 31 "Steamfield$Land" "springs" "[LSteamfield$Spring;", Cond.methodLink RX3 146 yX3_light, Cond.instanceMethod yX3_light, Cond.selects RX3 yX3_light yX3_light, Cond.initialized RX3, Cond.code yX3_light cX3_light 3 (some .int), Cond.methodLink RX3 150 yX3_flowThrough, Cond.instanceMethod yX3_flowThrough, Cond.selects RX3 yX3_flowThrough yX3_flowThrough, Cond.code yX3_flowThrough cX3_flowThrough 9 none, Cond.fieldLink RX3 11 "Steamfield$Land" "blocks" "[LSteamfield$Block;", Cond.methodLink RX3 189 Lib.Math.abs.name, Cond.static Lib.Math.abs.name, Cond.initialized "java/lang/Math", Cond.code Lib.Math.abs.name Lib.Math.abs.code 1 (some .int), Cond.fieldLink RX3 63 "Steamfield$Land" "load" "LSteamfield$Water;", Cond.methodLink RX3 216 Lib.Math.min.name]
def wsX3_step_r2 : List Cond := [Cond.static Lib.Math.min.name, Cond.code Lib.Math.min.name Lib.Math.min.code 2 (some .int), Cond.methodLink RX3 186 yX0_pressure, Cond.instanceMethod yX0_pressure, Cond.selects RX0 yX0_pressure yX0_pressure, Cond.initialized RX0, Cond.code yX0_pressure cX0_pressure 1 (some .int), Cond.fieldLink RX0 20 "Steamfield$Block" "volume" "I", Cond.fieldLink RX0 10 "Steamfield$Block" "water" "LSteamfield$Water;", Cond.methodLink RX3 197 yX0_take, Cond.instanceMethod yX0_take, Cond.selects RX0 yX0_take yX0_take, Cond.code yX0_take cX0_take 4 none, Cond.methodLink RX0 33 Lib.Math.min.name, Cond.methodLink RX0 39 yX0_warmth, Cond.instanceMethod yX0_warmth, Cond.selects RX0 yX0_warmth yX0_warmth, Cond.code yX0_warmth cX0_warmth 2 (some .int), Cond.methodLink RX0 46 yX6_shareOf, Cond.instanceMethod yX6_shareOf, Cond.selects RX6 yX6_shareOf yX6_shareOf, Cond.initialized RX6, Cond.code yX6_shareOf cX6_shareOf 3 (some .int), Cond.fieldLink RX6 7 "Steamfield$Water" "mass" "I"]
def wsX3_step_r3 : List Cond := [Cond.methodLink RX0 52 yX6_remove, Cond.instanceMethod yX6_remove, Cond.selects RX6 yX6_remove yX6_remove, Cond.code yX6_remove cX6_remove 2 none, Cond.fieldLink RX6 13 "Steamfield$Water" "heat" "I", Cond.fieldLink RX6 16 "Steamfield$Water" "salt" "I", Cond.fieldLink RX6 19 "Steamfield$Water" "tracer" "I", Cond.methodLink RX3 201 yX6_add, Cond.instanceMethod yX6_add, Cond.selects RX6 yX6_add yX6_add, Cond.code yX6_add cX6_add 2 none, Cond.methodLink RX3 210 yX0_warmth, Cond.methodLink RX3 153 yX3_produce, Cond.instanceMethod yX3_produce, Cond.selects RX3 yX3_produce yX3_produce, Cond.code yX3_produce cX3_produce 7 (some .int), Cond.methodLink RX3 226 Lib.Math.max.name, Cond.static Lib.Math.max.name, Cond.code Lib.Math.max.name Lib.Math.max.code 2 (some .int), Cond.fieldLink RX3 38 "Steamfield$Land" "pond" "LSteamfield$Water;", Cond.methodLink RX3 229 yX7_note, Cond.instanceMethod yX7_note, Cond.selects RX7 yX7_note yX7_note, Cond.initialized RX7]
def wsX3_step_r4 : List Cond := [Cond.code yX7_note cX7_note 3 none, Cond.fieldLink RX7 28 "Steamfield$Well" "flow" "I", Cond.fieldLink RX7 31 "Steamfield$Well" "steam" "I", Cond.fieldLink RX7 34 "Steamfield$Well" "tracer" "I", Cond.fieldLink RX7 37 "Steamfield$Well" "flowEver" "I", Cond.methodLink RX3 236 yX7_growCrust, Cond.instanceMethod yX7_growCrust, Cond.selects RX7 yX7_growCrust yX7_growCrust, Cond.code yX7_growCrust cX7_growCrust 1 none, Cond.fieldLink RX7 25 "Steamfield$Well" "crust" "I", Cond.fieldLink RX7 22 "Steamfield$Well" "scale" "I", Cond.methodLink RX7 46 Lib.Math.min.name, Cond.methodLink RX3 157 yX3_drive, Cond.instanceMethod yX3_drive, Cond.selects RX3 yX3_drive yX3_drive, Cond.code yX3_drive cX3_drive 3 none, Cond.fieldLink RX3 45 "Steamfield$Land" "plant" "LSteamfield$Plant;", Cond.fieldLink RX3 52 "Steamfield$Land" "books" "LSteamfield$Books;", Cond.methodLink RX3 161 yX3_warmTheTown, Cond.instanceMethod yX3_warmTheTown, Cond.selects RX3 yX3_warmTheTown yX3_warmTheTown, Cond.code yX3_warmTheTown cX3_warmTheTown 2 none, Cond.methodLink RX3 164 yX3_spill, Cond.instanceMethod yX3_spill]
def wsX3_step_r5 : List Cond := [Cond.selects RX3 yX3_spill yX3_spill, Cond.code yX3_spill cX3_spill 1 none, Cond.methodLink RX3 263 yX3_drain, Cond.instanceMethod yX3_drain, Cond.selects RX3 yX3_drain yX3_drain, Cond.code yX3_drain cX3_drain 2 none, Cond.methodLink RX3 266 yX6_shareOf, Cond.methodLink RX3 272 yX6_remove, Cond.methodLink RX3 167 yX3_inject, Cond.instanceMethod yX3_inject, Cond.selects RX3 yX3_inject yX3_inject, Cond.code yX3_inject cX3_inject 7 (some .int), Cond.methodLink RX3 171 yX3_letFlow, Cond.instanceMethod yX3_letFlow, Cond.selects RX3 yX3_letFlow yX3_letFlow, Cond.code yX3_letFlow cX3_letFlow 3 none, Cond.methodLink RX3 279 yX5_note, Cond.instanceMethod yX5_note, Cond.selects RX5 yX5_note yX5_note, Cond.initialized RX5, Cond.code yX5_note cX5_note 2 none, Cond.fieldLink RX5 19 "Steamfield$Spring" "flow" "I", Cond.fieldLink RX5 16 "Steamfield$Spring" "promise" "I", Cond.methodLink RX5 31 Lib.Math.max.name]
def wsX3_step_r6 : List Cond := [Cond.fieldLink RX5 22 "Steamfield$Spring" "lacked" "I", Cond.fieldLink RX5 25 "Steamfield$Spring" "flowEver" "I", Cond.fieldLink RX5 28 "Steamfield$Spring" "lackedEver" "I", Cond.methodLink RX3 174 yX3_shareOut, Cond.instanceMethod yX3_shareOut, Cond.selects RX3 yX3_shareOut yX3_shareOut, Cond.code yX3_shareOut cX3_shareOut 5 none, Cond.fieldLink RX3 56 "Steamfield$Land" "coins" "[I", Cond.methodLink RX3 281 yX3_shareOf, Cond.instanceMethod yX3_shareOf, Cond.selects RX3 yX3_shareOf yX3_shareOf, Cond.code yX3_shareOf cX3_shareOf 4 (some .int), Cond.fieldLink RX3 98 "Steamfield$Land" "blockCount" "I", Cond.methodLink RX3 177 yX3_payForLacks, Cond.instanceMethod yX3_payForLacks, Cond.selects RX3 yX3_payForLacks yX3_payForLacks, Cond.code yX3_payForLacks cX3_payForLacks 4 none]
def wsX3_step : List Cond := .code yX3_step cX3_step 5 none :: ((wsX3_step_r1 ++ (wsX3_step_r2 ++ (wsX3_step_r3 ++ (wsX3_step_r4 ++ (wsX3_step_r5 ++ wsX3_step_r6))))) ++ wsX30 ++ wsX70 ++ wsX20 ++ wsX00 ++ wsX60 ++ wsX40 ++ wsX10 ++ wsX50)
def wsX8_init_r1 : List Cond := [Cond.methodLink RX8 1 objectInit, Cond.instanceMethod objectInit, Cond.code objectInit ⟨#[0xb1]⟩ 1 none, Cond.classLink RX8 7 RX3, Cond.instantiable RX3 15, Cond.initialized RX3, Cond.fieldLink RX8 10 "Steamfield" "land" "LSteamfield$Land;", Cond.fieldLink RX8 16 "Steamfield" "trial" "LSteamfield$Land;", Cond.methodLink RX8 9 yX3_init, Cond.instanceMethod yX3_init, Cond.code yX3_init cX3_init 2 none, Cond.methodLink RX3 3 objectInit, Cond.classLink RX3 9 RX0, Cond.fieldLink RX3 11 "Steamfield$Land" "blocks" "[LSteamfield$Block;", Cond.classLink RX3 17 RX2, Cond.fieldLink RX3 19 "Steamfield$Land" "faces" "[LSteamfield$Face;", Cond.classLink RX3 23 RX7, Cond.fieldLink RX3 25 "Steamfield$Land" "wells" "[LSteamfield$Well;", Cond.classLink RX3 29 RX5, Cond.fieldLink RX3 31 "Steamfield$Land" "springs" "[LSteamfield$Spring;", Cond.classLink RX3 35 RX6, Cond.instantiable RX6 4, Cond.initialized RX6, Cond.fieldLink RX3 38 "Steamfield$Land" "pond" "LSteamfield$Water;"]
def wsX8_init_r2 : List Cond := [Cond.classLink RX3 42 RX4, Cond.instantiable RX4 6, Cond.initialized RX4, Cond.fieldLink RX3 45 "Steamfield$Land" "plant" "LSteamfield$Plant;", Cond.classLink RX3 49 RX1, Cond.instantiable RX1 5, Cond.initialized RX1, Cond.fieldLink RX3 52 "Steamfield$Land" "books" "LSteamfield$Books;", Cond.arrayClass .int, Cond.fieldLink RX3 56 "Steamfield$Land" "coins" "[I", Cond.fieldLink RX3 60 "Steamfield$Land" "shocks" "[I", Cond.fieldLink RX3 63 "Steamfield$Land" "load" "LSteamfield$Water;", Cond.instantiable RX0 3, Cond.initialized RX0, Cond.instantiable RX2 4, Cond.initialized RX2, Cond.instantiable RX7 9, Cond.initialized RX7, Cond.instantiable RX5 7, Cond.initialized RX5, Cond.instanceMethod yX6_init, Cond.code yX6_init cX6_init 1 none, Cond.methodLink RX6 1 objectInit, Cond.instanceMethod yX4_init]
def wsX8_init_r3 : List Cond := [Cond.code yX4_init cX4_init 1 none, Cond.methodLink RX4 1 objectInit, Cond.fieldLink RX4 7 "Steamfield$Plant" "size" "I", Cond.fieldLink RX4 13 "Steamfield$Plant" "isRunning" "Z", Cond.instanceMethod yX1_init, Cond.code yX1_init cX1_init 1 none, Cond.methodLink RX1 1 objectInit, Cond.classLink RX1 7 RX6, Cond.fieldLink RX1 10 "Steamfield$Books" "told" "LSteamfield$Water;", Cond.fieldLink RX1 16 "Steamfield$Books" "spilled" "LSteamfield$Water;", Cond.fieldLink RX1 19 "Steamfield$Books" "sprung" "LSteamfield$Water;", Cond.instanceMethod yX0_init, Cond.code yX0_init cX0_init 1 none, Cond.methodLink RX0 1 objectInit, Cond.classLink RX0 7 RX6, Cond.fieldLink RX0 10 "Steamfield$Block" "water" "LSteamfield$Water;", Cond.instanceMethod yX2_init, Cond.code yX2_init cX2_init 1 none, Cond.methodLink RX2 1 objectInit, Cond.instanceMethod yX7_init, Cond.code yX7_init cX7_init 1 none, Cond.methodLink RX7 3 objectInit, Cond.instanceMethod yX5_init, Cond.code yX5_init cX5_init 1 none]
def wsX8_init_r4 : List Cond := [Cond.methodLink RX5 1 objectInit]
def wsX8_init : List Cond := .code yX8_init cX8_init 1 none :: ((wsX8_init_r1 ++ (wsX8_init_r2 ++ (wsX8_init_r3 ++ wsX8_init_r4))) ++ wsX30 ++ wsX80 ++ wsX60 ++ wsX40 ++ wsX10 ++ wsX00 ++ wsX20 ++ wsX70 ++ wsX50)
def wsX8_needRange : List Cond := .code yX8_needRange cX8_needRange 3 none :: ([.classLink RX8 74 "java/lang/IllegalArgumentException", .initialized "java/lang/IllegalArgumentException"] ++ (vx_atS RX8 78 "java/lang/IllegalArgumentException" ["java/lang/RuntimeException", "java/lang/Exception"]).filter goodWord)
def wsX8_needRoom : List Cond := .code yX8_needRoom cX8_needRoom 2 none :: ([.classLink RX8 134 "java/lang/IllegalStateException", .initialized "java/lang/IllegalStateException"] ++ (vx_atS RX8 138 "java/lang/IllegalStateException" ["java/lang/RuntimeException", "java/lang/Exception"]).filter goodWord)
def wsX8_block : List Cond := .code yX8_block cX8_block 8 (some .int) :: ([.fieldLink RX8 10 "Steamfield" "land" "LSteamfield$Land;", .methodLink RX8 19 yX8_needRange, .static yX8_needRange, .initialized RX8, .code yX8_needRange cX8_needRange 3 none, .classLink RX8 74 "java/lang/IllegalArgumentException", .initialized "java/lang/IllegalArgumentException", .methodLink RX8 27 yX8_needRoom, .static yX8_needRoom, .code yX8_needRoom cX8_needRoom 2 none, .classLink RX8 134 "java/lang/IllegalStateException", .initialized "java/lang/IllegalStateException", .methodLink RX8 67 yX6_add, .instanceMethod yX6_add, .selects RX6 yX6_add yX6_add, .initialized RX6, .code yX6_add cX6_add 2 none, .fieldLink RX6 7 "Steamfield$Water" "mass" "I", .fieldLink RX6 13 "Steamfield$Water" "heat" "I", .fieldLink RX6 16 "Steamfield$Water" "salt" "I", .fieldLink RX6 19 "Steamfield$Water" "tracer" "I"] ++ wsX80 ++ wsX30 ++ wsX00 ++ wsX60 ++ wsX10 ++ (vx_atS RX8 78 "java/lang/IllegalArgumentException" ["java/lang/RuntimeException", "java/lang/Exception"]).filter goodWord ++ (vx_atS RX8 138 "java/lang/IllegalStateException" ["java/lang/RuntimeException", "java/lang/Exception"]).filter goodWord)
def wsX8_needIndex : List Cond := .code yX8_needIndex cX8_needIndex 2 none :: ([.classLink RX8 304 "java/lang/IndexOutOfBoundsException", .initialized "java/lang/IndexOutOfBoundsException"] ++ (vx_atS RX8 308 "java/lang/IndexOutOfBoundsException" ["java/lang/RuntimeException", "java/lang/Exception"]).filter goodWord)
def wsX8_face : List Cond := .code yX8_face cX8_face 6 (some .int) :: ([.classLink RX8 74 "java/lang/IllegalArgumentException", .initialized "java/lang/IllegalArgumentException", .fieldLink RX8 10 "Steamfield" "land" "LSteamfield$Land;", .methodLink RX8 71 yX8_needIndex, .static yX8_needIndex, .initialized RX8, .code yX8_needIndex cX8_needIndex 2 none, .classLink RX8 304 "java/lang/IndexOutOfBoundsException", .initialized "java/lang/IndexOutOfBoundsException", .methodLink RX8 19 yX8_needRange, .static yX8_needRange, .code yX8_needRange cX8_needRange 3 none, .methodLink RX8 27 yX8_needRoom, .static yX8_needRoom, .code yX8_needRoom cX8_needRoom 2 none, .classLink RX8 134 "java/lang/IllegalStateException", .initialized "java/lang/IllegalStateException"] ++ wsX80 ++ wsX30 ++ wsX20 ++ (vx_atS RX8 78 "java/lang/IllegalArgumentException" ["java/lang/RuntimeException", "java/lang/Exception"]).filter goodWord ++ (vx_atS RX8 308 "java/lang/IndexOutOfBoundsException" ["java/lang/RuntimeException", "java/lang/Exception"]).filter goodWord ++ (vx_atS RX8 138 "java/lang/IllegalStateException" ["java/lang/RuntimeException", "java/lang/Exception"]).filter goodWord)
def wsX8_well : List Cond := .code yX8_well cX8_well 5 (some .int) :: ([.fieldLink RX8 10 "Steamfield" "land" "LSteamfield$Land;", .methodLink RX8 71 yX8_needIndex, .static yX8_needIndex, .initialized RX8, .code yX8_needIndex cX8_needIndex 2 none, .classLink RX8 304 "java/lang/IndexOutOfBoundsException", .initialized "java/lang/IndexOutOfBoundsException", .methodLink RX8 27 yX8_needRoom, .static yX8_needRoom, .code yX8_needRoom cX8_needRoom 2 none, .classLink RX8 134 "java/lang/IllegalStateException", .initialized "java/lang/IllegalStateException"] ++ wsX80 ++ wsX30 ++ wsX70 ++ (vx_atS RX8 308 "java/lang/IndexOutOfBoundsException" ["java/lang/RuntimeException", "java/lang/Exception"]).filter goodWord ++ (vx_atS RX8 138 "java/lang/IllegalStateException" ["java/lang/RuntimeException", "java/lang/Exception"]).filter goodWord)
def wsX8_spring : List Cond := .code yX8_spring cX8_spring 6 (some .int) :: ([.fieldLink RX8 10 "Steamfield" "land" "LSteamfield$Land;", .methodLink RX8 71 yX8_needIndex, .static yX8_needIndex, .initialized RX8, .code yX8_needIndex cX8_needIndex 2 none, .classLink RX8 304 "java/lang/IndexOutOfBoundsException", .initialized "java/lang/IndexOutOfBoundsException", .methodLink RX8 19 yX8_needRange, .static yX8_needRange, .code yX8_needRange cX8_needRange 3 none, .classLink RX8 74 "java/lang/IllegalArgumentException", .initialized "java/lang/IllegalArgumentException", .methodLink RX8 27 yX8_needRoom, .static yX8_needRoom, .code yX8_needRoom cX8_needRoom 2 none, .classLink RX8 134 "java/lang/IllegalStateException", .initialized "java/lang/IllegalStateException"] ++ wsX80 ++ wsX30 ++ wsX50 ++ (vx_atS RX8 308 "java/lang/IndexOutOfBoundsException" ["java/lang/RuntimeException", "java/lang/Exception"]).filter goodWord ++ (vx_atS RX8 78 "java/lang/IllegalArgumentException" ["java/lang/RuntimeException", "java/lang/Exception"]).filter goodWord ++ (vx_atS RX8 138 "java/lang/IllegalStateException" ["java/lang/RuntimeException", "java/lang/Exception"]).filter goodWord)
def wsX8_valve : List Cond := .code yX8_valve cX8_valve 4 (some .int) :: ([.fieldLink RX8 10 "Steamfield" "land" "LSteamfield$Land;", .methodLink RX8 71 yX8_needIndex, .static yX8_needIndex, .initialized RX8, .code yX8_needIndex cX8_needIndex 2 none, .classLink RX8 304 "java/lang/IndexOutOfBoundsException", .initialized "java/lang/IndexOutOfBoundsException", .methodLink RX8 19 yX8_needRange, .static yX8_needRange, .code yX8_needRange cX8_needRange 3 none, .classLink RX8 74 "java/lang/IllegalArgumentException", .initialized "java/lang/IllegalArgumentException"] ++ wsX80 ++ wsX30 ++ wsX70 ++ (vx_atS RX8 308 "java/lang/IndexOutOfBoundsException" ["java/lang/RuntimeException", "java/lang/Exception"]).filter goodWord ++ (vx_atS RX8 78 "java/lang/IllegalArgumentException" ["java/lang/RuntimeException", "java/lang/Exception"]).filter goodWord)
def wsX8_trace : List Cond := .code yX8_trace cX8_trace 4 (some .int) :: ([.classLink RX8 134 "java/lang/IllegalStateException", .initialized "java/lang/IllegalStateException", .fieldLink RX8 10 "Steamfield" "land" "LSteamfield$Land;", .methodLink RX8 71 yX8_needIndex, .static yX8_needIndex, .initialized RX8, .code yX8_needIndex cX8_needIndex 2 none, .classLink RX8 304 "java/lang/IndexOutOfBoundsException", .initialized "java/lang/IndexOutOfBoundsException", .methodLink RX8 19 yX8_needRange, .static yX8_needRange, .code yX8_needRange cX8_needRange 3 none, .classLink RX8 74 "java/lang/IllegalArgumentException", .initialized "java/lang/IllegalArgumentException"] ++ wsX80 ++ wsX30 ++ wsX70 ++ wsX00 ++ wsX60 ++ wsX10 ++ (vx_atS RX8 138 "java/lang/IllegalStateException" ["java/lang/RuntimeException", "java/lang/Exception"]).filter goodWord ++ (vx_atS RX8 308 "java/lang/IndexOutOfBoundsException" ["java/lang/RuntimeException", "java/lang/Exception"]).filter goodWord ++ (vx_atS RX8 78 "java/lang/IllegalArgumentException" ["java/lang/RuntimeException", "java/lang/Exception"]).filter goodWord)
def wsX8_clean : List Cond := .code yX8_clean cX8_clean 6 (some .int) :: ([.classLink RX8 134 "java/lang/IllegalStateException", .initialized "java/lang/IllegalStateException", .fieldLink RX8 10 "Steamfield" "land" "LSteamfield$Land;", .methodLink RX8 71 yX8_needIndex, .static yX8_needIndex, .initialized RX8, .code yX8_needIndex cX8_needIndex 2 none, .classLink RX8 304 "java/lang/IndexOutOfBoundsException", .initialized "java/lang/IndexOutOfBoundsException"] ++ wsX80 ++ wsX30 ++ wsX70 ++ wsX00 ++ (vx_atS RX8 138 "java/lang/IllegalStateException" ["java/lang/RuntimeException", "java/lang/Exception"]).filter goodWord ++ (vx_atS RX8 308 "java/lang/IndexOutOfBoundsException" ["java/lang/RuntimeException", "java/lang/Exception"]).filter goodWord)
def wsX8_turbine : List Cond := .code yX8_turbine cX8_turbine 3 (some .int) :: ([.fieldLink RX8 10 "Steamfield" "land" "LSteamfield$Land;", .methodLink RX8 19 yX8_needRange, .static yX8_needRange, .initialized RX8, .code yX8_needRange cX8_needRange 3 none, .classLink RX8 74 "java/lang/IllegalArgumentException", .initialized "java/lang/IllegalArgumentException"] ++ wsX80 ++ wsX30 ++ wsX40 ++ (vx_atS RX8 78 "java/lang/IllegalArgumentException" ["java/lang/RuntimeException", "java/lang/Exception"]).filter goodWord)
def wsX8_town : List Cond := .code yX8_town cX8_town 3 (some .int) :: ([.fieldLink RX8 10 "Steamfield" "land" "LSteamfield$Land;", .methodLink RX8 19 yX8_needRange, .static yX8_needRange, .initialized RX8, .code yX8_needRange cX8_needRange 3 none, .classLink RX8 74 "java/lang/IllegalArgumentException", .initialized "java/lang/IllegalArgumentException"] ++ wsX80 ++ wsX30 ++ wsX40 ++ (vx_atS RX8 78 "java/lang/IllegalArgumentException" ["java/lang/RuntimeException", "java/lang/Exception"]).filter goodWord)
def wsX8_powerIn_r1 : List Cond := [Cond.methodLink RX8 251 yX3_step, Cond.instanceMethod yX3_step, Cond.selects RX3 yX3_step yX3_step, Cond.initialized RX3, Cond.code yX3_step cX3_step 5 none, Cond.fieldLink RX3 111 "Steamfield$Land" "now" "I", Cond.fieldLink RX3 102 "Steamfield$Land" "faceCount" "I", Cond.fieldLink RX3 19 "Steamfield$Land" "faces" "[LSteamfield$Face;", Cond.fieldLink RX3 105 "Steamfield$Land" "wellCount" "I", Cond.fieldLink RX3 25 "Steamfield$Land" "wells" "[LSteamfield$Well;", Cond.fieldLink RX3 60 "Steamfield$Land" "shocks" "[I", Cond.fieldLink RX3 108 "Steamfield$Land" "springCount" "I", Cond.fieldLink RX3 31 "Steamfield$Land" "springs" "[LSteamfield$Spring;", Cond.methodLink RX3 146 yX3_light, Cond.instanceMethod yX3_light, Cond.selects RX3 yX3_light yX3_light, Cond.code yX3_light cX3_light 3 (some .int), Cond.methodLink RX3 150 yX3_flowThrough, Cond.instanceMethod yX3_flowThrough, Cond.selects RX3 yX3_flowThrough yX3_flowThrough, Cond.code yX3_flowThrough cX3_flowThrough 9 none, Cond.fieldLink RX3 11 "Steamfield$Land" "blocks" "[LSteamfield$Block;", Cond.methodLink RX3 189 Lib.Math.abs.name, Cond.static Lib.Math.abs.name]
def wsX8_powerIn_r2 : List Cond := [Cond.initialized "java/lang/Math", Cond.code Lib.Math.abs.name Lib.Math.abs.code 1 (some .int), Cond.fieldLink RX3 63 "Steamfield$Land" "load" "LSteamfield$Water;", Cond.methodLink RX3 216 Lib.Math.min.name, Cond.static Lib.Math.min.name, Cond.code Lib.Math.min.name Lib.Math.min.code 2 (some .int), Cond.methodLink RX3 186 yX0_pressure, Cond.instanceMethod yX0_pressure, Cond.selects RX0 yX0_pressure yX0_pressure, Cond.initialized RX0, Cond.code yX0_pressure cX0_pressure 1 (some .int), Cond.fieldLink RX0 20 "Steamfield$Block" "volume" "I", Cond.fieldLink RX0 10 "Steamfield$Block" "water" "LSteamfield$Water;", Cond.methodLink RX3 197 yX0_take, Cond.instanceMethod yX0_take, Cond.selects RX0 yX0_take yX0_take, Cond.code yX0_take cX0_take 4 none, Cond.methodLink RX0 33 Lib.Math.min.name, Cond.methodLink RX0 39 yX0_warmth, Cond.instanceMethod yX0_warmth, Cond.selects RX0 yX0_warmth yX0_warmth, Cond.code yX0_warmth cX0_warmth 2 (some .int), Cond.methodLink RX0 46 yX6_shareOf, Cond.instanceMethod yX6_shareOf]
def wsX8_powerIn_r3 : List Cond := [Cond.selects RX6 yX6_shareOf yX6_shareOf, Cond.initialized RX6, Cond.code yX6_shareOf cX6_shareOf 3 (some .int), Cond.fieldLink RX6 7 "Steamfield$Water" "mass" "I", Cond.methodLink RX0 52 yX6_remove, Cond.instanceMethod yX6_remove, Cond.selects RX6 yX6_remove yX6_remove, Cond.code yX6_remove cX6_remove 2 none, Cond.fieldLink RX6 13 "Steamfield$Water" "heat" "I", Cond.fieldLink RX6 16 "Steamfield$Water" "salt" "I", Cond.fieldLink RX6 19 "Steamfield$Water" "tracer" "I", Cond.methodLink RX3 201 yX6_add, Cond.instanceMethod yX6_add, Cond.selects RX6 yX6_add yX6_add, Cond.code yX6_add cX6_add 2 none, Cond.methodLink RX3 210 yX0_warmth, Cond.methodLink RX3 153 yX3_produce, Cond.instanceMethod yX3_produce, Cond.selects RX3 yX3_produce yX3_produce, Cond.code yX3_produce cX3_produce 7 (some .int), Cond.methodLink RX3 226 Lib.Math.max.name, Cond.static Lib.Math.max.name, Cond.code Lib.Math.max.name Lib.Math.max.code 2 (some .int), Cond.fieldLink RX3 38 "Steamfield$Land" "pond" "LSteamfield$Water;"]
def wsX8_powerIn_r4 : List Cond := [Cond.methodLink RX3 229 yX7_note, Cond.instanceMethod yX7_note, Cond.selects RX7 yX7_note yX7_note, Cond.initialized RX7, Cond.code yX7_note cX7_note 3 none, Cond.fieldLink RX7 28 "Steamfield$Well" "flow" "I", Cond.fieldLink RX7 31 "Steamfield$Well" "steam" "I", Cond.fieldLink RX7 34 "Steamfield$Well" "tracer" "I", Cond.fieldLink RX7 37 "Steamfield$Well" "flowEver" "I", Cond.methodLink RX3 236 yX7_growCrust, Cond.instanceMethod yX7_growCrust, Cond.selects RX7 yX7_growCrust yX7_growCrust, Cond.code yX7_growCrust cX7_growCrust 1 none, Cond.fieldLink RX7 25 "Steamfield$Well" "crust" "I", Cond.fieldLink RX7 22 "Steamfield$Well" "scale" "I", Cond.methodLink RX7 46 Lib.Math.min.name, Cond.methodLink RX3 157 yX3_drive, Cond.instanceMethod yX3_drive, Cond.selects RX3 yX3_drive yX3_drive, Cond.code yX3_drive cX3_drive 3 none, Cond.fieldLink RX3 45 "Steamfield$Land" "plant" "LSteamfield$Plant;", Cond.fieldLink RX3 52 "Steamfield$Land" "books" "LSteamfield$Books;", Cond.methodLink RX3 161 yX3_warmTheTown, Cond.instanceMethod yX3_warmTheTown]
def wsX8_powerIn_r5 : List Cond := [Cond.selects RX3 yX3_warmTheTown yX3_warmTheTown, Cond.code yX3_warmTheTown cX3_warmTheTown 2 none, Cond.methodLink RX3 164 yX3_spill, Cond.instanceMethod yX3_spill, Cond.selects RX3 yX3_spill yX3_spill, Cond.code yX3_spill cX3_spill 1 none, Cond.methodLink RX3 263 yX3_drain, Cond.instanceMethod yX3_drain, Cond.selects RX3 yX3_drain yX3_drain, Cond.code yX3_drain cX3_drain 2 none, Cond.methodLink RX3 266 yX6_shareOf, Cond.methodLink RX3 272 yX6_remove, Cond.methodLink RX3 167 yX3_inject, Cond.instanceMethod yX3_inject, Cond.selects RX3 yX3_inject yX3_inject, Cond.code yX3_inject cX3_inject 7 (some .int), Cond.methodLink RX3 171 yX3_letFlow, Cond.instanceMethod yX3_letFlow, Cond.selects RX3 yX3_letFlow yX3_letFlow, Cond.code yX3_letFlow cX3_letFlow 3 none, Cond.methodLink RX3 279 yX5_note, Cond.instanceMethod yX5_note, Cond.selects RX5 yX5_note yX5_note, Cond.initialized RX5]
def wsX8_powerIn_r6 : List Cond := [Cond.code yX5_note cX5_note 2 none, Cond.fieldLink RX5 19 "Steamfield$Spring" "flow" "I", Cond.fieldLink RX5 16 "Steamfield$Spring" "promise" "I", Cond.methodLink RX5 31 Lib.Math.max.name, Cond.fieldLink RX5 22 "Steamfield$Spring" "lacked" "I", Cond.fieldLink RX5 25 "Steamfield$Spring" "flowEver" "I", Cond.fieldLink RX5 28 "Steamfield$Spring" "lackedEver" "I", Cond.methodLink RX3 174 yX3_shareOut, Cond.instanceMethod yX3_shareOut, Cond.selects RX3 yX3_shareOut yX3_shareOut, Cond.code yX3_shareOut cX3_shareOut 5 none, Cond.fieldLink RX3 56 "Steamfield$Land" "coins" "[I", Cond.methodLink RX3 281 yX3_shareOf, Cond.instanceMethod yX3_shareOf, Cond.selects RX3 yX3_shareOf yX3_shareOf, Cond.code yX3_shareOf cX3_shareOf 4 (some .int), Cond.fieldLink RX3 98 "Steamfield$Land" "blockCount" "I", Cond.methodLink RX3 177 yX3_payForLacks, Cond.instanceMethod yX3_payForLacks, Cond.selects RX3 yX3_payForLacks yX3_payForLacks, Cond.code yX3_payForLacks cX3_payForLacks 4 none]
def wsX8_powerIn : List Cond := .code yX8_powerIn cX8_powerIn 4 (some .int) :: ((wsX8_powerIn_r1 ++ (wsX8_powerIn_r2 ++ (wsX8_powerIn_r3 ++ (wsX8_powerIn_r4 ++ (wsX8_powerIn_r5 ++ wsX8_powerIn_r6))))) ++ wsX30 ++ wsX40 ++ wsX70 ++ wsX20 ++ wsX00 ++ wsX60 ++ wsX10 ++ wsX50)
def wsX8_run_r1 : List Cond := [Cond.fieldLink RX8 10 "Steamfield" "land" "LSteamfield$Land;", Cond.methodLink RX8 19 yX8_needRange, Cond.static yX8_needRange, Cond.initialized RX8, Cond.code yX8_needRange cX8_needRange 3 none, Cond.classLink RX8 74 "java/lang/IllegalArgumentException", Cond.initialized "java/lang/IllegalArgumentException", Cond.methodLink RX8 169 yX8_powerIn, Cond.static yX8_powerIn, Cond.code yX8_powerIn cX8_powerIn 4 (some .int), Cond.methodLink RX8 251 yX3_step, Cond.instanceMethod yX3_step, Cond.selects RX3 yX3_step yX3_step, Cond.initialized RX3, Cond.code yX3_step cX3_step 5 none, Cond.fieldLink RX3 111 "Steamfield$Land" "now" "I", Cond.fieldLink RX3 102 "Steamfield$Land" "faceCount" "I", Cond.fieldLink RX3 19 "Steamfield$Land" "faces" "[LSteamfield$Face;", Cond.fieldLink RX3 105 "Steamfield$Land" "wellCount" "I", Cond.fieldLink RX3 25 "Steamfield$Land" "wells" "[LSteamfield$Well;", Cond.fieldLink RX3 60 "Steamfield$Land" "shocks" "[I", Cond.fieldLink RX3 108 "Steamfield$Land" "springCount" "I", Cond.fieldLink RX3 31 "Steamfield$Land" "springs" "[LSteamfield$Spring;", Cond.methodLink RX3 146 yX3_light]
def wsX8_run_r2 : List Cond := [Cond.instanceMethod yX3_light, Cond.selects RX3 yX3_light yX3_light, Cond.code yX3_light cX3_light 3 (some .int), Cond.methodLink RX3 150 yX3_flowThrough, Cond.instanceMethod yX3_flowThrough, Cond.selects RX3 yX3_flowThrough yX3_flowThrough, Cond.code yX3_flowThrough cX3_flowThrough 9 none, Cond.fieldLink RX3 11 "Steamfield$Land" "blocks" "[LSteamfield$Block;", Cond.methodLink RX3 189 Lib.Math.abs.name, Cond.static Lib.Math.abs.name, Cond.initialized "java/lang/Math", Cond.code Lib.Math.abs.name Lib.Math.abs.code 1 (some .int), Cond.fieldLink RX3 63 "Steamfield$Land" "load" "LSteamfield$Water;", Cond.methodLink RX3 216 Lib.Math.min.name, Cond.static Lib.Math.min.name, Cond.code Lib.Math.min.name Lib.Math.min.code 2 (some .int), Cond.methodLink RX3 186 yX0_pressure, Cond.instanceMethod yX0_pressure, Cond.selects RX0 yX0_pressure yX0_pressure, Cond.initialized RX0, Cond.code yX0_pressure cX0_pressure 1 (some .int), Cond.fieldLink RX0 20 "Steamfield$Block" "volume" "I", Cond.fieldLink RX0 10 "Steamfield$Block" "water" "LSteamfield$Water;", Cond.methodLink RX3 197 yX0_take]
def wsX8_run_r3 : List Cond := [Cond.instanceMethod yX0_take, Cond.selects RX0 yX0_take yX0_take, Cond.code yX0_take cX0_take 4 none, Cond.methodLink RX0 33 Lib.Math.min.name, Cond.methodLink RX0 39 yX0_warmth, Cond.instanceMethod yX0_warmth, Cond.selects RX0 yX0_warmth yX0_warmth, Cond.code yX0_warmth cX0_warmth 2 (some .int), Cond.methodLink RX0 46 yX6_shareOf, Cond.instanceMethod yX6_shareOf, Cond.selects RX6 yX6_shareOf yX6_shareOf, Cond.initialized RX6, Cond.code yX6_shareOf cX6_shareOf 3 (some .int), Cond.fieldLink RX6 7 "Steamfield$Water" "mass" "I", Cond.methodLink RX0 52 yX6_remove, Cond.instanceMethod yX6_remove, Cond.selects RX6 yX6_remove yX6_remove, Cond.code yX6_remove cX6_remove 2 none, Cond.fieldLink RX6 13 "Steamfield$Water" "heat" "I", Cond.fieldLink RX6 16 "Steamfield$Water" "salt" "I", Cond.fieldLink RX6 19 "Steamfield$Water" "tracer" "I", Cond.methodLink RX3 201 yX6_add, Cond.instanceMethod yX6_add, Cond.selects RX6 yX6_add yX6_add]
def wsX8_run_r4 : List Cond := [Cond.code yX6_add cX6_add 2 none, Cond.methodLink RX3 210 yX0_warmth, Cond.methodLink RX3 153 yX3_produce, Cond.instanceMethod yX3_produce, Cond.selects RX3 yX3_produce yX3_produce, Cond.code yX3_produce cX3_produce 7 (some .int), Cond.methodLink RX3 226 Lib.Math.max.name, Cond.static Lib.Math.max.name, Cond.code Lib.Math.max.name Lib.Math.max.code 2 (some .int), Cond.fieldLink RX3 38 "Steamfield$Land" "pond" "LSteamfield$Water;", Cond.methodLink RX3 229 yX7_note, Cond.instanceMethod yX7_note, Cond.selects RX7 yX7_note yX7_note, Cond.initialized RX7, Cond.code yX7_note cX7_note 3 none, Cond.fieldLink RX7 28 "Steamfield$Well" "flow" "I", Cond.fieldLink RX7 31 "Steamfield$Well" "steam" "I", Cond.fieldLink RX7 34 "Steamfield$Well" "tracer" "I", Cond.fieldLink RX7 37 "Steamfield$Well" "flowEver" "I", Cond.methodLink RX3 236 yX7_growCrust, Cond.instanceMethod yX7_growCrust, Cond.selects RX7 yX7_growCrust yX7_growCrust, Cond.code yX7_growCrust cX7_growCrust 1 none, Cond.fieldLink RX7 25 "Steamfield$Well" "crust" "I"]
def wsX8_run_r5 : List Cond := [Cond.fieldLink RX7 22 "Steamfield$Well" "scale" "I", Cond.methodLink RX7 46 Lib.Math.min.name, Cond.methodLink RX3 157 yX3_drive, Cond.instanceMethod yX3_drive, Cond.selects RX3 yX3_drive yX3_drive, Cond.code yX3_drive cX3_drive 3 none, Cond.fieldLink RX3 45 "Steamfield$Land" "plant" "LSteamfield$Plant;", Cond.fieldLink RX3 52 "Steamfield$Land" "books" "LSteamfield$Books;", Cond.methodLink RX3 161 yX3_warmTheTown, Cond.instanceMethod yX3_warmTheTown, Cond.selects RX3 yX3_warmTheTown yX3_warmTheTown, Cond.code yX3_warmTheTown cX3_warmTheTown 2 none, Cond.methodLink RX3 164 yX3_spill, Cond.instanceMethod yX3_spill, Cond.selects RX3 yX3_spill yX3_spill, Cond.code yX3_spill cX3_spill 1 none, Cond.methodLink RX3 263 yX3_drain, Cond.instanceMethod yX3_drain, Cond.selects RX3 yX3_drain yX3_drain, Cond.code yX3_drain cX3_drain 2 none, Cond.methodLink RX3 266 yX6_shareOf, Cond.methodLink RX3 272 yX6_remove, Cond.methodLink RX3 167 yX3_inject, Cond.instanceMethod yX3_inject]
def wsX8_run_r6 : List Cond := [Cond.selects RX3 yX3_inject yX3_inject, Cond.code yX3_inject cX3_inject 7 (some .int), Cond.methodLink RX3 171 yX3_letFlow, Cond.instanceMethod yX3_letFlow, Cond.selects RX3 yX3_letFlow yX3_letFlow, Cond.code yX3_letFlow cX3_letFlow 3 none, Cond.methodLink RX3 279 yX5_note, Cond.instanceMethod yX5_note, Cond.selects RX5 yX5_note yX5_note, Cond.initialized RX5, Cond.code yX5_note cX5_note 2 none, Cond.fieldLink RX5 19 "Steamfield$Spring" "flow" "I", Cond.fieldLink RX5 16 "Steamfield$Spring" "promise" "I", Cond.methodLink RX5 31 Lib.Math.max.name, Cond.fieldLink RX5 22 "Steamfield$Spring" "lacked" "I", Cond.fieldLink RX5 25 "Steamfield$Spring" "flowEver" "I", Cond.fieldLink RX5 28 "Steamfield$Spring" "lackedEver" "I", Cond.methodLink RX3 174 yX3_shareOut, Cond.instanceMethod yX3_shareOut, Cond.selects RX3 yX3_shareOut yX3_shareOut, Cond.code yX3_shareOut cX3_shareOut 5 none, Cond.fieldLink RX3 56 "Steamfield$Land" "coins" "[I", Cond.methodLink RX3 281 yX3_shareOf, Cond.instanceMethod yX3_shareOf]
def wsX8_run_r7 : List Cond := [Cond.selects RX3 yX3_shareOf yX3_shareOf, Cond.code yX3_shareOf cX3_shareOf 4 (some .int), Cond.fieldLink RX3 98 "Steamfield$Land" "blockCount" "I", Cond.methodLink RX3 177 yX3_payForLacks, Cond.instanceMethod yX3_payForLacks, Cond.selects RX3 yX3_payForLacks yX3_payForLacks, Cond.code yX3_payForLacks cX3_payForLacks 4 none]
def wsX8_run : List Cond := .code yX8_run cX8_run 2 (some .int) :: ((wsX8_run_r1 ++ (wsX8_run_r2 ++ (wsX8_run_r3 ++ (wsX8_run_r4 ++ (wsX8_run_r5 ++ (wsX8_run_r6 ++ wsX8_run_r7)))))) ++ wsX80 ++ wsX30 ++ wsX40 ++ wsX70 ++ wsX20 ++ wsX00 ++ wsX60 ++ wsX10 ++ wsX50 ++ (vx_atS RX8 78 "java/lang/IllegalArgumentException" ["java/lang/RuntimeException", "java/lang/Exception"]).filter goodWord)
def wsX8_ofBlock_r1 : List Cond := [Cond.fieldLink RX8 10 "Steamfield" "land" "LSteamfield$Land;", Cond.methodLink RX8 71 yX8_needIndex, Cond.static yX8_needIndex, Cond.initialized RX8, Cond.code yX8_needIndex cX8_needIndex 2 none, Cond.classLink RX8 304 "java/lang/IndexOutOfBoundsException", Cond.initialized "java/lang/IndexOutOfBoundsException", Cond.methodLink RX8 19 yX8_needRange, Cond.static yX8_needRange, Cond.code yX8_needRange cX8_needRange 3 none, Cond.classLink RX8 74 "java/lang/IllegalArgumentException", Cond.initialized "java/lang/IllegalArgumentException", Cond.methodLink RX8 173 yX0_pressure, Cond.instanceMethod yX0_pressure, Cond.selects RX0 yX0_pressure yX0_pressure, Cond.initialized RX0, Cond.code yX0_pressure cX0_pressure 1 (some .int), Cond.fieldLink RX0 20 "Steamfield$Block" "volume" "I", Cond.fieldLink RX0 10 "Steamfield$Block" "water" "LSteamfield$Water;", Cond.methodLink RX8 177 yX0_warmth, Cond.instanceMethod yX0_warmth, Cond.selects RX0 yX0_warmth yX0_warmth, Cond.code yX0_warmth cX0_warmth 2 (some .int), Cond.methodLink RX8 180 yX6_part]
def wsX8_ofBlock_r2 : List Cond := [Cond.instanceMethod yX6_part, Cond.selects RX6 yX6_part yX6_part, Cond.initialized RX6, Cond.code yX6_part cX6_part 2 (some .int), Cond.fieldLink RX6 7 "Steamfield$Water" "mass" "I", Cond.fieldLink RX6 13 "Steamfield$Water" "heat" "I", Cond.fieldLink RX6 16 "Steamfield$Water" "salt" "I", Cond.fieldLink RX6 19 "Steamfield$Water" "tracer" "I"]
def wsX8_ofBlock : List Cond := .code yX8_ofBlock cX8_ofBlock 4 (some .int) :: ((wsX8_ofBlock_r1 ++ wsX8_ofBlock_r2) ++ wsX80 ++ wsX30 ++ wsX00 ++ wsX60 ++ (vx_atS RX8 308 "java/lang/IndexOutOfBoundsException" ["java/lang/RuntimeException", "java/lang/Exception"]).filter goodWord ++ (vx_atS RX8 78 "java/lang/IllegalArgumentException" ["java/lang/RuntimeException", "java/lang/Exception"]).filter goodWord)
def wsX8_ofWell : List Cond := .code yX8_ofWell cX8_ofWell 4 (some .int) :: ([.fieldLink RX8 10 "Steamfield" "land" "LSteamfield$Land;", .methodLink RX8 71 yX8_needIndex, .static yX8_needIndex, .initialized RX8, .code yX8_needIndex cX8_needIndex 2 none, .classLink RX8 304 "java/lang/IndexOutOfBoundsException", .initialized "java/lang/IndexOutOfBoundsException", .methodLink RX8 19 yX8_needRange, .static yX8_needRange, .code yX8_needRange cX8_needRange 3 none, .classLink RX8 74 "java/lang/IllegalArgumentException", .initialized "java/lang/IllegalArgumentException"] ++ wsX80 ++ wsX30 ++ wsX70 ++ (vx_atS RX8 308 "java/lang/IndexOutOfBoundsException" ["java/lang/RuntimeException", "java/lang/Exception"]).filter goodWord ++ (vx_atS RX8 78 "java/lang/IllegalArgumentException" ["java/lang/RuntimeException", "java/lang/Exception"]).filter goodWord)
def wsX8_ofSpring : List Cond := .code yX8_ofSpring cX8_ofSpring 4 (some .int) :: ([.fieldLink RX8 10 "Steamfield" "land" "LSteamfield$Land;", .methodLink RX8 71 yX8_needIndex, .static yX8_needIndex, .initialized RX8, .code yX8_needIndex cX8_needIndex 2 none, .classLink RX8 304 "java/lang/IndexOutOfBoundsException", .initialized "java/lang/IndexOutOfBoundsException", .methodLink RX8 19 yX8_needRange, .static yX8_needRange, .code yX8_needRange cX8_needRange 3 none, .classLink RX8 74 "java/lang/IllegalArgumentException", .initialized "java/lang/IllegalArgumentException"] ++ wsX80 ++ wsX30 ++ wsX50 ++ (vx_atS RX8 308 "java/lang/IndexOutOfBoundsException" ["java/lang/RuntimeException", "java/lang/Exception"]).filter goodWord ++ (vx_atS RX8 78 "java/lang/IllegalArgumentException" ["java/lang/RuntimeException", "java/lang/Exception"]).filter goodWord)
def wsX8_ofFace : List Cond := .code yX8_ofFace cX8_ofFace 3 (some .int) :: ([.fieldLink RX8 10 "Steamfield" "land" "LSteamfield$Land;", .methodLink RX8 71 yX8_needIndex, .static yX8_needIndex, .initialized RX8, .code yX8_needIndex cX8_needIndex 2 none, .classLink RX8 304 "java/lang/IndexOutOfBoundsException", .initialized "java/lang/IndexOutOfBoundsException"] ++ wsX80 ++ wsX30 ++ wsX20 ++ (vx_atS RX8 308 "java/lang/IndexOutOfBoundsException" ["java/lang/RuntimeException", "java/lang/Exception"]).filter goodWord)
def wsX8_pond : List Cond := .code yX8_pond cX8_pond 2 (some .int) :: ([.fieldLink RX8 10 "Steamfield" "land" "LSteamfield$Land;", .methodLink RX8 19 yX8_needRange, .static yX8_needRange, .initialized RX8, .code yX8_needRange cX8_needRange 3 none, .classLink RX8 74 "java/lang/IllegalArgumentException", .initialized "java/lang/IllegalArgumentException", .methodLink RX8 180 yX6_part, .instanceMethod yX6_part, .selects RX6 yX6_part yX6_part, .initialized RX6, .code yX6_part cX6_part 2 (some .int), .fieldLink RX6 7 "Steamfield$Water" "mass" "I", .fieldLink RX6 13 "Steamfield$Water" "heat" "I", .fieldLink RX6 16 "Steamfield$Water" "salt" "I", .fieldLink RX6 19 "Steamfield$Water" "tracer" "I"] ++ wsX80 ++ wsX30 ++ wsX60 ++ (vx_atS RX8 78 "java/lang/IllegalArgumentException" ["java/lang/RuntimeException", "java/lang/Exception"]).filter goodWord)
def wsX8_ofOwner : List Cond := .code yX8_ofOwner cX8_ofOwner 3 (some .int) :: ([.fieldLink RX8 10 "Steamfield" "land" "LSteamfield$Land;", .methodLink RX8 71 yX8_needIndex, .static yX8_needIndex, .initialized RX8, .code yX8_needIndex cX8_needIndex 2 none, .classLink RX8 304 "java/lang/IndexOutOfBoundsException", .initialized "java/lang/IndexOutOfBoundsException", .methodLink RX8 19 yX8_needRange, .static yX8_needRange, .code yX8_needRange cX8_needRange 3 none, .classLink RX8 74 "java/lang/IllegalArgumentException", .initialized "java/lang/IllegalArgumentException", .methodLink RX8 206 yX3_shareOf, .instanceMethod yX3_shareOf, .selects RX3 yX3_shareOf yX3_shareOf, .initialized RX3, .code yX3_shareOf cX3_shareOf 4 (some .int), .fieldLink RX3 98 "Steamfield$Land" "blockCount" "I", .fieldLink RX3 11 "Steamfield$Land" "blocks" "[LSteamfield$Block;"] ++ wsX80 ++ wsX30 ++ wsX00 ++ (vx_atS RX8 308 "java/lang/IndexOutOfBoundsException" ["java/lang/RuntimeException", "java/lang/Exception"]).filter goodWord ++ (vx_atS RX8 78 "java/lang/IllegalArgumentException" ["java/lang/RuntimeException", "java/lang/Exception"]).filter goodWord)
def wsX8_mass : List Cond := .code yX8_mass cX8_mass 2 (some .int) :: ([.fieldLink RX8 10 "Steamfield" "land" "LSteamfield$Land;", .methodLink RX8 19 yX8_needRange, .static yX8_needRange, .initialized RX8, .code yX8_needRange cX8_needRange 3 none, .classLink RX8 74 "java/lang/IllegalArgumentException", .initialized "java/lang/IllegalArgumentException", .methodLink RX8 209 yX3_inBlocks, .instanceMethod yX3_inBlocks, .selects RX3 yX3_inBlocks yX3_inBlocks, .initialized RX3, .code yX3_inBlocks cX3_inBlocks 4 (some .int), .fieldLink RX3 98 "Steamfield$Land" "blockCount" "I", .fieldLink RX3 11 "Steamfield$Land" "blocks" "[LSteamfield$Block;", .methodLink RX3 126 yX6_part, .instanceMethod yX6_part, .selects RX6 yX6_part yX6_part, .initialized RX6, .code yX6_part cX6_part 2 (some .int), .fieldLink RX6 7 "Steamfield$Water" "mass" "I", .fieldLink RX6 13 "Steamfield$Water" "heat" "I", .fieldLink RX6 16 "Steamfield$Water" "salt" "I", .fieldLink RX6 19 "Steamfield$Water" "tracer" "I"] ++ wsX80 ++ wsX30 ++ wsX10 ++ wsX60 ++ wsX00 ++ (vx_atS RX8 78 "java/lang/IllegalArgumentException" ["java/lang/RuntimeException", "java/lang/Exception"]).filter goodWord)
def wsX8_isClosed : List Cond := .code yX8_isClosed cX8_isClosed 2 (some .boolean) :: ([.fieldLink RX8 10 "Steamfield" "land" "LSteamfield$Land;", .methodLink RX8 224 yX3_accountedFor, .instanceMethod yX3_accountedFor, .selects RX3 yX3_accountedFor yX3_accountedFor, .initialized RX3, .code yX3_accountedFor cX3_accountedFor 2 (some .int), .fieldLink RX3 38 "Steamfield$Land" "pond" "LSteamfield$Water;", .fieldLink RX3 52 "Steamfield$Land" "books" "LSteamfield$Books;", .methodLink RX3 130 yX3_inBlocks, .instanceMethod yX3_inBlocks, .selects RX3 yX3_inBlocks yX3_inBlocks, .code yX3_inBlocks cX3_inBlocks 4 (some .int), .fieldLink RX3 98 "Steamfield$Land" "blockCount" "I", .fieldLink RX3 11 "Steamfield$Land" "blocks" "[LSteamfield$Block;", .methodLink RX3 126 yX6_part, .instanceMethod yX6_part, .selects RX6 yX6_part yX6_part, .initialized RX6, .code yX6_part cX6_part 2 (some .int), .fieldLink RX6 7 "Steamfield$Water" "mass" "I", .fieldLink RX6 13 "Steamfield$Water" "heat" "I", .fieldLink RX6 16 "Steamfield$Water" "salt" "I", .fieldLink RX6 19 "Steamfield$Water" "tracer" "I"] ++ wsX80 ++ wsX30 ++ wsX10 ++ wsX60 ++ wsX00)
def wsX8_many : List Cond := .code yX8_many cX8_many 2 (some .int) :: ([.fieldLink RX8 10 "Steamfield" "land" "LSteamfield$Land;", .methodLink RX8 19 yX8_needRange, .static yX8_needRange, .initialized RX8, .code yX8_needRange cX8_needRange 3 none, .classLink RX8 74 "java/lang/IllegalArgumentException", .initialized "java/lang/IllegalArgumentException", .methodLink RX8 230 yX3_light, .instanceMethod yX3_light, .selects RX3 yX3_light yX3_light, .initialized RX3, .code yX3_light cX3_light 3 (some .int), .fieldLink RX3 60 "Steamfield$Land" "shocks" "[I", .methodLink RX8 233 yX3_lastShock, .instanceMethod yX3_lastShock, .selects RX3 yX3_lastShock yX3_lastShock, .code yX3_lastShock cX3_lastShock 1 (some .int), .fieldLink RX3 111 "Steamfield$Land" "now" "I", .methodLink RX8 245 yX3_lackedEver, .instanceMethod yX3_lackedEver, .selects RX3 yX3_lackedEver yX3_lackedEver, .code yX3_lackedEver cX3_lackedEver 3 (some .int), .fieldLink RX3 108 "Steamfield$Land" "springCount" "I", .fieldLink RX3 31 "Steamfield$Land" "springs" "[LSteamfield$Spring;"] ++ wsX80 ++ wsX30 ++ wsX40 ++ wsX50 ++ (vx_atS RX8 78 "java/lang/IllegalArgumentException" ["java/lang/RuntimeException", "java/lang/Exception"]).filter goodWord)
def wsX8_meanWarmth : List Cond := .code yX8_meanWarmth cX8_meanWarmth 7 (some .double) :: ([.fieldLink RX8 10 "Steamfield" "land" "LSteamfield$Land;", .methodLink RX8 177 yX0_warmth, .instanceMethod yX0_warmth, .selects RX0 yX0_warmth yX0_warmth, .initialized RX0, .code yX0_warmth cX0_warmth 2 (some .int), .fieldLink RX0 20 "Steamfield$Block" "volume" "I", .fieldLink RX0 10 "Steamfield$Block" "water" "LSteamfield$Water;"] ++ wsX80 ++ wsX30 ++ wsX00 ++ wsX60)
def wsX8_wouldGive_r1 : List Cond := [Cond.fieldLink RX8 16 "Steamfield" "trial" "LSteamfield$Land;", Cond.fieldLink RX8 10 "Steamfield" "land" "LSteamfield$Land;", Cond.methodLink RX8 19 yX8_needRange, Cond.static yX8_needRange, Cond.initialized RX8, Cond.code yX8_needRange cX8_needRange 3 none, Cond.classLink RX8 74 "java/lang/IllegalArgumentException", Cond.initialized "java/lang/IllegalArgumentException", Cond.methodLink RX8 247 yX3_copyFrom, Cond.instanceMethod yX3_copyFrom, Cond.selects RX3 yX3_copyFrom yX3_copyFrom, Cond.initialized RX3, Cond.code yX3_copyFrom cX3_copyFrom 3 none, Cond.fieldLink RX3 11 "Steamfield$Land" "blocks" "[LSteamfield$Block;", Cond.fieldLink RX3 19 "Steamfield$Land" "faces" "[LSteamfield$Face;", Cond.fieldLink RX3 25 "Steamfield$Land" "wells" "[LSteamfield$Well;", Cond.fieldLink RX3 31 "Steamfield$Land" "springs" "[LSteamfield$Spring;", Cond.fieldLink RX3 38 "Steamfield$Land" "pond" "LSteamfield$Water;", Cond.fieldLink RX3 45 "Steamfield$Land" "plant" "LSteamfield$Plant;", Cond.fieldLink RX3 52 "Steamfield$Land" "books" "LSteamfield$Books;", Cond.fieldLink RX3 56 "Steamfield$Land" "coins" "[I", Cond.methodLink RX3 92 arraycopyName, Cond.native arraycopyName, Cond.static arraycopyName]
def wsX8_wouldGive_r2 : List Cond := [Cond.initialized "java/lang/System", Cond.fieldLink RX3 60 "Steamfield$Land" "shocks" "[I", Cond.fieldLink RX3 98 "Steamfield$Land" "blockCount" "I", Cond.fieldLink RX3 102 "Steamfield$Land" "faceCount" "I", Cond.fieldLink RX3 105 "Steamfield$Land" "wellCount" "I", Cond.fieldLink RX3 108 "Steamfield$Land" "springCount" "I", Cond.fieldLink RX3 111 "Steamfield$Land" "now" "I", Cond.methodLink RX3 70 yX0_copyFrom, Cond.instanceMethod yX0_copyFrom, Cond.selects RX0 yX0_copyFrom yX0_copyFrom, Cond.initialized RX0, Cond.code yX0_copyFrom cX0_copyFrom 2 none, Cond.fieldLink RX0 10 "Steamfield$Block" "water" "LSteamfield$Water;", Cond.fieldLink RX0 20 "Steamfield$Block" "volume" "I", Cond.fieldLink RX0 24 "Steamfield$Block" "owner" "I", Cond.methodLink RX0 16 yX6_copyFrom, Cond.instanceMethod yX6_copyFrom, Cond.selects RX6 yX6_copyFrom yX6_copyFrom, Cond.initialized RX6, Cond.code yX6_copyFrom cX6_copyFrom 2 none, Cond.fieldLink RX6 7 "Steamfield$Water" "mass" "I", Cond.fieldLink RX6 13 "Steamfield$Water" "heat" "I", Cond.fieldLink RX6 16 "Steamfield$Water" "salt" "I", Cond.fieldLink RX6 19 "Steamfield$Water" "tracer" "I"]
def wsX8_wouldGive_r3 : List Cond := [Cond.methodLink RX3 74 yX2_copyFrom, Cond.instanceMethod yX2_copyFrom, Cond.selects RX2 yX2_copyFrom yX2_copyFrom, Cond.initialized RX2, Cond.code yX2_copyFrom cX2_copyFrom 2 none, Cond.fieldLink RX2 7 "Steamfield$Face" "one" "I", Cond.fieldLink RX2 13 "Steamfield$Face" "other" "I", Cond.fieldLink RX2 16 "Steamfield$Face" "open" "I", Cond.fieldLink RX2 19 "Steamfield$Face" "flow" "I", Cond.methodLink RX3 77 yX7_copyFrom, Cond.instanceMethod yX7_copyFrom, Cond.selects RX7 yX7_copyFrom yX7_copyFrom, Cond.initialized RX7, Cond.code yX7_copyFrom cX7_copyFrom 2 none, Cond.fieldLink RX7 9 "Steamfield$Well" "block" "I", Cond.fieldLink RX7 15 "Steamfield$Well" "isInjector" "Z", Cond.fieldLink RX7 19 "Steamfield$Well" "valve" "I", Cond.fieldLink RX7 22 "Steamfield$Well" "scale" "I", Cond.fieldLink RX7 25 "Steamfield$Well" "crust" "I", Cond.fieldLink RX7 28 "Steamfield$Well" "flow" "I", Cond.fieldLink RX7 31 "Steamfield$Well" "steam" "I", Cond.fieldLink RX7 34 "Steamfield$Well" "tracer" "I", Cond.fieldLink RX7 37 "Steamfield$Well" "flowEver" "I", Cond.methodLink RX3 80 yX5_copyFrom]
def wsX8_wouldGive_r4 : List Cond := [Cond.instanceMethod yX5_copyFrom, Cond.selects RX5 yX5_copyFrom yX5_copyFrom, Cond.initialized RX5, Cond.code yX5_copyFrom cX5_copyFrom 2 none, Cond.fieldLink RX5 7 "Steamfield$Spring" "block" "I", Cond.fieldLink RX5 13 "Steamfield$Spring" "level" "I", Cond.fieldLink RX5 16 "Steamfield$Spring" "promise" "I", Cond.fieldLink RX5 19 "Steamfield$Spring" "flow" "I", Cond.fieldLink RX5 22 "Steamfield$Spring" "lacked" "I", Cond.fieldLink RX5 25 "Steamfield$Spring" "flowEver" "I", Cond.fieldLink RX5 28 "Steamfield$Spring" "lackedEver" "I", Cond.methodLink RX3 83 yX6_copyFrom, Cond.methodLink RX3 86 yX4_copyFrom, Cond.instanceMethod yX4_copyFrom, Cond.selects RX4 yX4_copyFrom yX4_copyFrom, Cond.initialized RX4, Cond.code yX4_copyFrom cX4_copyFrom 2 none, Cond.fieldLink RX4 7 "Steamfield$Plant" "size" "I", Cond.fieldLink RX4 13 "Steamfield$Plant" "isRunning" "Z", Cond.fieldLink RX4 17 "Steamfield$Plant" "power" "I", Cond.fieldLink RX4 20 "Steamfield$Plant" "powerEver" "I", Cond.fieldLink RX4 23 "Steamfield$Plant" "need" "I", Cond.fieldLink RX4 26 "Steamfield$Plant" "townHeat" "I", Cond.methodLink RX3 89 yX1_copyFrom]
def wsX8_wouldGive_r5 : List Cond := [Cond.instanceMethod yX1_copyFrom, Cond.selects RX1 yX1_copyFrom yX1_copyFrom, Cond.initialized RX1, Cond.code yX1_copyFrom cX1_copyFrom 2 none, Cond.fieldLink RX1 10 "Steamfield$Books" "told" "LSteamfield$Water;", Cond.fieldLink RX1 16 "Steamfield$Books" "spilled" "LSteamfield$Water;", Cond.fieldLink RX1 19 "Steamfield$Books" "sprung" "LSteamfield$Water;", Cond.fieldLink RX1 26 "Steamfield$Books" "used" "I", Cond.fieldLink RX1 30 "Steamfield$Books" "vented" "I", Cond.methodLink RX1 22 yX6_copyFrom, Cond.methodLink RX8 169 yX8_powerIn, Cond.static yX8_powerIn, Cond.code yX8_powerIn cX8_powerIn 4 (some .int), Cond.methodLink RX8 251 yX3_step, Cond.instanceMethod yX3_step, Cond.selects RX3 yX3_step yX3_step, Cond.code yX3_step cX3_step 5 none, Cond.methodLink RX3 146 yX3_light, Cond.instanceMethod yX3_light, Cond.selects RX3 yX3_light yX3_light, Cond.code yX3_light cX3_light 3 (some .int), Cond.methodLink RX3 150 yX3_flowThrough, Cond.instanceMethod yX3_flowThrough, Cond.selects RX3 yX3_flowThrough yX3_flowThrough]
def wsX8_wouldGive_r6 : List Cond := [Cond.code yX3_flowThrough cX3_flowThrough 9 none, Cond.methodLink RX3 189 Lib.Math.abs.name, Cond.static Lib.Math.abs.name, Cond.initialized "java/lang/Math", Cond.code Lib.Math.abs.name Lib.Math.abs.code 1 (some .int), Cond.fieldLink RX3 63 "Steamfield$Land" "load" "LSteamfield$Water;", Cond.methodLink RX3 216 Lib.Math.min.name, Cond.static Lib.Math.min.name, Cond.code Lib.Math.min.name Lib.Math.min.code 2 (some .int), Cond.methodLink RX3 186 yX0_pressure, Cond.instanceMethod yX0_pressure, Cond.selects RX0 yX0_pressure yX0_pressure, Cond.code yX0_pressure cX0_pressure 1 (some .int), Cond.methodLink RX3 197 yX0_take, Cond.instanceMethod yX0_take, Cond.selects RX0 yX0_take yX0_take, Cond.code yX0_take cX0_take 4 none, Cond.methodLink RX0 33 Lib.Math.min.name, Cond.methodLink RX0 39 yX0_warmth, Cond.instanceMethod yX0_warmth, Cond.selects RX0 yX0_warmth yX0_warmth, Cond.code yX0_warmth cX0_warmth 2 (some .int), Cond.methodLink RX0 46 yX6_shareOf, Cond.instanceMethod yX6_shareOf]
def wsX8_wouldGive_r7 : List Cond := [Cond.selects RX6 yX6_shareOf yX6_shareOf, Cond.code yX6_shareOf cX6_shareOf 3 (some .int), Cond.methodLink RX0 52 yX6_remove, Cond.instanceMethod yX6_remove, Cond.selects RX6 yX6_remove yX6_remove, Cond.code yX6_remove cX6_remove 2 none, Cond.methodLink RX3 201 yX6_add, Cond.instanceMethod yX6_add, Cond.selects RX6 yX6_add yX6_add, Cond.code yX6_add cX6_add 2 none, Cond.methodLink RX3 210 yX0_warmth, Cond.methodLink RX3 153 yX3_produce, Cond.instanceMethod yX3_produce, Cond.selects RX3 yX3_produce yX3_produce, Cond.code yX3_produce cX3_produce 7 (some .int), Cond.methodLink RX3 226 Lib.Math.max.name, Cond.static Lib.Math.max.name, Cond.code Lib.Math.max.name Lib.Math.max.code 2 (some .int), Cond.methodLink RX3 229 yX7_note, Cond.instanceMethod yX7_note, Cond.selects RX7 yX7_note yX7_note, Cond.code yX7_note cX7_note 3 none, Cond.methodLink RX3 236 yX7_growCrust, Cond.instanceMethod yX7_growCrust]
def wsX8_wouldGive_r8 : List Cond := [Cond.selects RX7 yX7_growCrust yX7_growCrust, Cond.code yX7_growCrust cX7_growCrust 1 none, Cond.methodLink RX7 46 Lib.Math.min.name, Cond.methodLink RX3 157 yX3_drive, Cond.instanceMethod yX3_drive, Cond.selects RX3 yX3_drive yX3_drive, Cond.code yX3_drive cX3_drive 3 none, Cond.methodLink RX3 161 yX3_warmTheTown, Cond.instanceMethod yX3_warmTheTown, Cond.selects RX3 yX3_warmTheTown yX3_warmTheTown, Cond.code yX3_warmTheTown cX3_warmTheTown 2 none, Cond.methodLink RX3 164 yX3_spill, Cond.instanceMethod yX3_spill, Cond.selects RX3 yX3_spill yX3_spill, Cond.code yX3_spill cX3_spill 1 none, Cond.methodLink RX3 263 yX3_drain, Cond.instanceMethod yX3_drain, Cond.selects RX3 yX3_drain yX3_drain, Cond.code yX3_drain cX3_drain 2 none, Cond.methodLink RX3 266 yX6_shareOf, Cond.methodLink RX3 272 yX6_remove, Cond.methodLink RX3 167 yX3_inject, Cond.instanceMethod yX3_inject, Cond.selects RX3 yX3_inject yX3_inject]
def wsX8_wouldGive_r9 : List Cond := [Cond.code yX3_inject cX3_inject 7 (some .int), Cond.methodLink RX3 171 yX3_letFlow, Cond.instanceMethod yX3_letFlow, Cond.selects RX3 yX3_letFlow yX3_letFlow, Cond.code yX3_letFlow cX3_letFlow 3 none, Cond.methodLink RX3 279 yX5_note, Cond.instanceMethod yX5_note, Cond.selects RX5 yX5_note yX5_note, Cond.code yX5_note cX5_note 2 none, Cond.methodLink RX5 31 Lib.Math.max.name, Cond.methodLink RX3 174 yX3_shareOut, Cond.instanceMethod yX3_shareOut, Cond.selects RX3 yX3_shareOut yX3_shareOut, Cond.code yX3_shareOut cX3_shareOut 5 none, Cond.methodLink RX3 281 yX3_shareOf, Cond.instanceMethod yX3_shareOf, Cond.selects RX3 yX3_shareOf yX3_shareOf, Cond.code yX3_shareOf cX3_shareOf 4 (some .int), Cond.methodLink RX3 177 yX3_payForLacks, Cond.instanceMethod yX3_payForLacks, Cond.selects RX3 yX3_payForLacks yX3_payForLacks, Cond.code yX3_payForLacks cX3_payForLacks 4 none]
def wsX8_wouldGive : List Cond := .code yX8_wouldGive cX8_wouldGive 2 (some .int) :: ((wsX8_wouldGive_r1 ++ (wsX8_wouldGive_r2 ++ (wsX8_wouldGive_r3 ++ (wsX8_wouldGive_r4 ++ (wsX8_wouldGive_r5 ++ (wsX8_wouldGive_r6 ++ (wsX8_wouldGive_r7 ++ (wsX8_wouldGive_r8 ++ wsX8_wouldGive_r9)))))))) ++ wsX80 ++ wsX30 ++ wsX00 ++ wsX60 ++ wsX20 ++ wsX70 ++ wsX50 ++ wsX40 ++ wsX10 ++ (vx_atS RX8 78 "java/lang/IllegalArgumentException" ["java/lang/RuntimeException", "java/lang/Exception"]).filter goodWord)
def wsX8_coldIn_r1 : List Cond := [Cond.fieldLink RX8 10 "Steamfield" "land" "LSteamfield$Land;", Cond.fieldLink RX8 16 "Steamfield" "trial" "LSteamfield$Land;", Cond.methodLink RX8 71 yX8_needIndex, Cond.static yX8_needIndex, Cond.initialized RX8, Cond.code yX8_needIndex cX8_needIndex 2 none, Cond.classLink RX8 304 "java/lang/IndexOutOfBoundsException", Cond.initialized "java/lang/IndexOutOfBoundsException", Cond.methodLink RX8 19 yX8_needRange, Cond.static yX8_needRange, Cond.code yX8_needRange cX8_needRange 3 none, Cond.classLink RX8 74 "java/lang/IllegalArgumentException", Cond.initialized "java/lang/IllegalArgumentException", Cond.methodLink RX8 247 yX3_copyFrom, Cond.instanceMethod yX3_copyFrom, Cond.selects RX3 yX3_copyFrom yX3_copyFrom, Cond.initialized RX3, Cond.code yX3_copyFrom cX3_copyFrom 3 none, Cond.fieldLink RX3 11 "Steamfield$Land" "blocks" "[LSteamfield$Block;", Cond.fieldLink RX3 19 "Steamfield$Land" "faces" "[LSteamfield$Face;", Cond.fieldLink RX3 25 "Steamfield$Land" "wells" "[LSteamfield$Well;", Cond.fieldLink RX3 31 "Steamfield$Land" "springs" "[LSteamfield$Spring;", Cond.fieldLink RX3 38 "Steamfield$Land" "pond" "LSteamfield$Water;", Cond.fieldLink RX3 45 "Steamfield$Land" "plant" "LSteamfield$Plant;"]
def wsX8_coldIn_r2 : List Cond := [Cond.fieldLink RX3 52 "Steamfield$Land" "books" "LSteamfield$Books;", Cond.fieldLink RX3 56 "Steamfield$Land" "coins" "[I", Cond.methodLink RX3 92 arraycopyName, Cond.native arraycopyName, Cond.static arraycopyName, Cond.initialized "java/lang/System", Cond.fieldLink RX3 60 "Steamfield$Land" "shocks" "[I", Cond.fieldLink RX3 98 "Steamfield$Land" "blockCount" "I", Cond.fieldLink RX3 102 "Steamfield$Land" "faceCount" "I", Cond.fieldLink RX3 105 "Steamfield$Land" "wellCount" "I", Cond.fieldLink RX3 108 "Steamfield$Land" "springCount" "I", Cond.fieldLink RX3 111 "Steamfield$Land" "now" "I", Cond.methodLink RX3 70 yX0_copyFrom, Cond.instanceMethod yX0_copyFrom, Cond.selects RX0 yX0_copyFrom yX0_copyFrom, Cond.initialized RX0, Cond.code yX0_copyFrom cX0_copyFrom 2 none, Cond.fieldLink RX0 10 "Steamfield$Block" "water" "LSteamfield$Water;", Cond.fieldLink RX0 20 "Steamfield$Block" "volume" "I", Cond.fieldLink RX0 24 "Steamfield$Block" "owner" "I", Cond.methodLink RX0 16 yX6_copyFrom, Cond.instanceMethod yX6_copyFrom, Cond.selects RX6 yX6_copyFrom yX6_copyFrom, Cond.initialized RX6]
def wsX8_coldIn_r3 : List Cond := [Cond.code yX6_copyFrom cX6_copyFrom 2 none, Cond.fieldLink RX6 7 "Steamfield$Water" "mass" "I", Cond.fieldLink RX6 13 "Steamfield$Water" "heat" "I", Cond.fieldLink RX6 16 "Steamfield$Water" "salt" "I", Cond.fieldLink RX6 19 "Steamfield$Water" "tracer" "I", Cond.methodLink RX3 74 yX2_copyFrom, Cond.instanceMethod yX2_copyFrom, Cond.selects RX2 yX2_copyFrom yX2_copyFrom, Cond.initialized RX2, Cond.code yX2_copyFrom cX2_copyFrom 2 none, Cond.fieldLink RX2 7 "Steamfield$Face" "one" "I", Cond.fieldLink RX2 13 "Steamfield$Face" "other" "I", Cond.fieldLink RX2 16 "Steamfield$Face" "open" "I", Cond.fieldLink RX2 19 "Steamfield$Face" "flow" "I", Cond.methodLink RX3 77 yX7_copyFrom, Cond.instanceMethod yX7_copyFrom, Cond.selects RX7 yX7_copyFrom yX7_copyFrom, Cond.initialized RX7, Cond.code yX7_copyFrom cX7_copyFrom 2 none, Cond.fieldLink RX7 9 "Steamfield$Well" "block" "I", Cond.fieldLink RX7 15 "Steamfield$Well" "isInjector" "Z", Cond.fieldLink RX7 19 "Steamfield$Well" "valve" "I", Cond.fieldLink RX7 22 "Steamfield$Well" "scale" "I", Cond.fieldLink RX7 25 "Steamfield$Well" "crust" "I"]
def wsX8_coldIn_r4 : List Cond := [Cond.fieldLink RX7 28 "Steamfield$Well" "flow" "I", Cond.fieldLink RX7 31 "Steamfield$Well" "steam" "I", Cond.fieldLink RX7 34 "Steamfield$Well" "tracer" "I", Cond.fieldLink RX7 37 "Steamfield$Well" "flowEver" "I", Cond.methodLink RX3 80 yX5_copyFrom, Cond.instanceMethod yX5_copyFrom, Cond.selects RX5 yX5_copyFrom yX5_copyFrom, Cond.initialized RX5, Cond.code yX5_copyFrom cX5_copyFrom 2 none, Cond.fieldLink RX5 7 "Steamfield$Spring" "block" "I", Cond.fieldLink RX5 13 "Steamfield$Spring" "level" "I", Cond.fieldLink RX5 16 "Steamfield$Spring" "promise" "I", Cond.fieldLink RX5 19 "Steamfield$Spring" "flow" "I", Cond.fieldLink RX5 22 "Steamfield$Spring" "lacked" "I", Cond.fieldLink RX5 25 "Steamfield$Spring" "flowEver" "I", Cond.fieldLink RX5 28 "Steamfield$Spring" "lackedEver" "I", Cond.methodLink RX3 83 yX6_copyFrom, Cond.methodLink RX3 86 yX4_copyFrom, Cond.instanceMethod yX4_copyFrom, Cond.selects RX4 yX4_copyFrom yX4_copyFrom, Cond.initialized RX4, Cond.code yX4_copyFrom cX4_copyFrom 2 none, Cond.fieldLink RX4 7 "Steamfield$Plant" "size" "I", Cond.fieldLink RX4 13 "Steamfield$Plant" "isRunning" "Z"]
def wsX8_coldIn_r5 : List Cond := [Cond.fieldLink RX4 17 "Steamfield$Plant" "power" "I", Cond.fieldLink RX4 20 "Steamfield$Plant" "powerEver" "I", Cond.fieldLink RX4 23 "Steamfield$Plant" "need" "I", Cond.fieldLink RX4 26 "Steamfield$Plant" "townHeat" "I", Cond.methodLink RX3 89 yX1_copyFrom, Cond.instanceMethod yX1_copyFrom, Cond.selects RX1 yX1_copyFrom yX1_copyFrom, Cond.initialized RX1, Cond.code yX1_copyFrom cX1_copyFrom 2 none, Cond.fieldLink RX1 10 "Steamfield$Books" "told" "LSteamfield$Water;", Cond.fieldLink RX1 16 "Steamfield$Books" "spilled" "LSteamfield$Water;", Cond.fieldLink RX1 19 "Steamfield$Books" "sprung" "LSteamfield$Water;", Cond.fieldLink RX1 26 "Steamfield$Books" "used" "I", Cond.fieldLink RX1 30 "Steamfield$Books" "vented" "I", Cond.methodLink RX1 22 yX6_copyFrom, Cond.methodLink RX8 177 yX0_warmth, Cond.instanceMethod yX0_warmth, Cond.selects RX0 yX0_warmth yX0_warmth, Cond.code yX0_warmth cX0_warmth 2 (some .int), Cond.methodLink RX8 251 yX3_step, Cond.instanceMethod yX3_step, Cond.selects RX3 yX3_step yX3_step, Cond.code yX3_step cX3_step 5 none, Cond.methodLink RX3 146 yX3_light]
def wsX8_coldIn_r6 : List Cond := [Cond.instanceMethod yX3_light, Cond.selects RX3 yX3_light yX3_light, Cond.code yX3_light cX3_light 3 (some .int), Cond.methodLink RX3 150 yX3_flowThrough, Cond.instanceMethod yX3_flowThrough, Cond.selects RX3 yX3_flowThrough yX3_flowThrough, Cond.code yX3_flowThrough cX3_flowThrough 9 none, Cond.methodLink RX3 189 Lib.Math.abs.name, Cond.static Lib.Math.abs.name, Cond.initialized "java/lang/Math", Cond.code Lib.Math.abs.name Lib.Math.abs.code 1 (some .int), Cond.fieldLink RX3 63 "Steamfield$Land" "load" "LSteamfield$Water;", Cond.methodLink RX3 216 Lib.Math.min.name, Cond.static Lib.Math.min.name, Cond.code Lib.Math.min.name Lib.Math.min.code 2 (some .int), Cond.methodLink RX3 186 yX0_pressure, Cond.instanceMethod yX0_pressure, Cond.selects RX0 yX0_pressure yX0_pressure, Cond.code yX0_pressure cX0_pressure 1 (some .int), Cond.methodLink RX3 197 yX0_take, Cond.instanceMethod yX0_take, Cond.selects RX0 yX0_take yX0_take, Cond.code yX0_take cX0_take 4 none, Cond.methodLink RX0 33 Lib.Math.min.name]
def wsX8_coldIn_r7 : List Cond := [Cond.methodLink RX0 39 yX0_warmth, Cond.methodLink RX0 46 yX6_shareOf, Cond.instanceMethod yX6_shareOf, Cond.selects RX6 yX6_shareOf yX6_shareOf, Cond.code yX6_shareOf cX6_shareOf 3 (some .int), Cond.methodLink RX0 52 yX6_remove, Cond.instanceMethod yX6_remove, Cond.selects RX6 yX6_remove yX6_remove, Cond.code yX6_remove cX6_remove 2 none, Cond.methodLink RX3 201 yX6_add, Cond.instanceMethod yX6_add, Cond.selects RX6 yX6_add yX6_add, Cond.code yX6_add cX6_add 2 none, Cond.methodLink RX3 210 yX0_warmth, Cond.methodLink RX3 153 yX3_produce, Cond.instanceMethod yX3_produce, Cond.selects RX3 yX3_produce yX3_produce, Cond.code yX3_produce cX3_produce 7 (some .int), Cond.methodLink RX3 226 Lib.Math.max.name, Cond.static Lib.Math.max.name, Cond.code Lib.Math.max.name Lib.Math.max.code 2 (some .int), Cond.methodLink RX3 229 yX7_note, Cond.instanceMethod yX7_note, Cond.selects RX7 yX7_note yX7_note]
def wsX8_coldIn_r8 : List Cond := [Cond.code yX7_note cX7_note 3 none, Cond.methodLink RX3 236 yX7_growCrust, Cond.instanceMethod yX7_growCrust, Cond.selects RX7 yX7_growCrust yX7_growCrust, Cond.code yX7_growCrust cX7_growCrust 1 none, Cond.methodLink RX7 46 Lib.Math.min.name, Cond.methodLink RX3 157 yX3_drive, Cond.instanceMethod yX3_drive, Cond.selects RX3 yX3_drive yX3_drive, Cond.code yX3_drive cX3_drive 3 none, Cond.methodLink RX3 161 yX3_warmTheTown, Cond.instanceMethod yX3_warmTheTown, Cond.selects RX3 yX3_warmTheTown yX3_warmTheTown, Cond.code yX3_warmTheTown cX3_warmTheTown 2 none, Cond.methodLink RX3 164 yX3_spill, Cond.instanceMethod yX3_spill, Cond.selects RX3 yX3_spill yX3_spill, Cond.code yX3_spill cX3_spill 1 none, Cond.methodLink RX3 263 yX3_drain, Cond.instanceMethod yX3_drain, Cond.selects RX3 yX3_drain yX3_drain, Cond.code yX3_drain cX3_drain 2 none, Cond.methodLink RX3 266 yX6_shareOf, Cond.methodLink RX3 272 yX6_remove]
def wsX8_coldIn_r9 : List Cond := [Cond.methodLink RX3 167 yX3_inject, Cond.instanceMethod yX3_inject, Cond.selects RX3 yX3_inject yX3_inject, Cond.code yX3_inject cX3_inject 7 (some .int), Cond.methodLink RX3 171 yX3_letFlow, Cond.instanceMethod yX3_letFlow, Cond.selects RX3 yX3_letFlow yX3_letFlow, Cond.code yX3_letFlow cX3_letFlow 3 none, Cond.methodLink RX3 279 yX5_note, Cond.instanceMethod yX5_note, Cond.selects RX5 yX5_note yX5_note, Cond.code yX5_note cX5_note 2 none, Cond.methodLink RX5 31 Lib.Math.max.name, Cond.methodLink RX3 174 yX3_shareOut, Cond.instanceMethod yX3_shareOut, Cond.selects RX3 yX3_shareOut yX3_shareOut, Cond.code yX3_shareOut cX3_shareOut 5 none, Cond.methodLink RX3 281 yX3_shareOf, Cond.instanceMethod yX3_shareOf, Cond.selects RX3 yX3_shareOf yX3_shareOf, Cond.code yX3_shareOf cX3_shareOf 4 (some .int), Cond.methodLink RX3 177 yX3_payForLacks, Cond.instanceMethod yX3_payForLacks, Cond.selects RX3 yX3_payForLacks yX3_payForLacks]
def wsX8_coldIn_r10 : List Cond := [Cond.code yX3_payForLacks cX3_payForLacks 4 none]
def wsX8_coldIn : List Cond := .code yX8_coldIn cX8_coldIn 5 (some .int) :: ((wsX8_coldIn_r1 ++ (wsX8_coldIn_r2 ++ (wsX8_coldIn_r3 ++ (wsX8_coldIn_r4 ++ (wsX8_coldIn_r5 ++ (wsX8_coldIn_r6 ++ (wsX8_coldIn_r7 ++ (wsX8_coldIn_r8 ++ (wsX8_coldIn_r9 ++ wsX8_coldIn_r10))))))))) ++ wsX80 ++ wsX30 ++ wsX70 ++ wsX00 ++ wsX60 ++ wsX20 ++ wsX50 ++ wsX40 ++ wsX10 ++ (vx_atS RX8 308 "java/lang/IndexOutOfBoundsException" ["java/lang/RuntimeException", "java/lang/Exception"]).filter goodWord ++ (vx_atS RX8 78 "java/lang/IllegalArgumentException" ["java/lang/RuntimeException", "java/lang/Exception"]).filter goodWord)
def wsX8_causedBy_r1 : List Cond := [Cond.fieldLink RX8 10 "Steamfield" "land" "LSteamfield$Land;", Cond.fieldLink RX8 16 "Steamfield" "trial" "LSteamfield$Land;", Cond.methodLink RX8 71 yX8_needIndex, Cond.static yX8_needIndex, Cond.initialized RX8, Cond.code yX8_needIndex cX8_needIndex 2 none, Cond.classLink RX8 304 "java/lang/IndexOutOfBoundsException", Cond.initialized "java/lang/IndexOutOfBoundsException", Cond.methodLink RX8 19 yX8_needRange, Cond.static yX8_needRange, Cond.code yX8_needRange cX8_needRange 3 none, Cond.classLink RX8 74 "java/lang/IllegalArgumentException", Cond.initialized "java/lang/IllegalArgumentException", Cond.methodLink RX8 247 yX3_copyFrom, Cond.instanceMethod yX3_copyFrom, Cond.selects RX3 yX3_copyFrom yX3_copyFrom, Cond.initialized RX3, Cond.code yX3_copyFrom cX3_copyFrom 3 none, Cond.fieldLink RX3 11 "Steamfield$Land" "blocks" "[LSteamfield$Block;", Cond.fieldLink RX3 19 "Steamfield$Land" "faces" "[LSteamfield$Face;", Cond.fieldLink RX3 25 "Steamfield$Land" "wells" "[LSteamfield$Well;", Cond.fieldLink RX3 31 "Steamfield$Land" "springs" "[LSteamfield$Spring;", Cond.fieldLink RX3 38 "Steamfield$Land" "pond" "LSteamfield$Water;", Cond.fieldLink RX3 45 "Steamfield$Land" "plant" "LSteamfield$Plant;"]
def wsX8_causedBy_r2 : List Cond := [Cond.fieldLink RX3 52 "Steamfield$Land" "books" "LSteamfield$Books;", Cond.fieldLink RX3 56 "Steamfield$Land" "coins" "[I", Cond.methodLink RX3 92 arraycopyName, Cond.native arraycopyName, Cond.static arraycopyName, Cond.initialized "java/lang/System", Cond.fieldLink RX3 60 "Steamfield$Land" "shocks" "[I", Cond.fieldLink RX3 98 "Steamfield$Land" "blockCount" "I", Cond.fieldLink RX3 102 "Steamfield$Land" "faceCount" "I", Cond.fieldLink RX3 105 "Steamfield$Land" "wellCount" "I", Cond.fieldLink RX3 108 "Steamfield$Land" "springCount" "I", Cond.fieldLink RX3 111 "Steamfield$Land" "now" "I", Cond.methodLink RX3 70 yX0_copyFrom, Cond.instanceMethod yX0_copyFrom, Cond.selects RX0 yX0_copyFrom yX0_copyFrom, Cond.initialized RX0, Cond.code yX0_copyFrom cX0_copyFrom 2 none, Cond.fieldLink RX0 10 "Steamfield$Block" "water" "LSteamfield$Water;", Cond.fieldLink RX0 20 "Steamfield$Block" "volume" "I", Cond.fieldLink RX0 24 "Steamfield$Block" "owner" "I", Cond.methodLink RX0 16 yX6_copyFrom, Cond.instanceMethod yX6_copyFrom, Cond.selects RX6 yX6_copyFrom yX6_copyFrom, Cond.initialized RX6]
def wsX8_causedBy_r3 : List Cond := [Cond.code yX6_copyFrom cX6_copyFrom 2 none, Cond.fieldLink RX6 7 "Steamfield$Water" "mass" "I", Cond.fieldLink RX6 13 "Steamfield$Water" "heat" "I", Cond.fieldLink RX6 16 "Steamfield$Water" "salt" "I", Cond.fieldLink RX6 19 "Steamfield$Water" "tracer" "I", Cond.methodLink RX3 74 yX2_copyFrom, Cond.instanceMethod yX2_copyFrom, Cond.selects RX2 yX2_copyFrom yX2_copyFrom, Cond.initialized RX2, Cond.code yX2_copyFrom cX2_copyFrom 2 none, Cond.fieldLink RX2 7 "Steamfield$Face" "one" "I", Cond.fieldLink RX2 13 "Steamfield$Face" "other" "I", Cond.fieldLink RX2 16 "Steamfield$Face" "open" "I", Cond.fieldLink RX2 19 "Steamfield$Face" "flow" "I", Cond.methodLink RX3 77 yX7_copyFrom, Cond.instanceMethod yX7_copyFrom, Cond.selects RX7 yX7_copyFrom yX7_copyFrom, Cond.initialized RX7, Cond.code yX7_copyFrom cX7_copyFrom 2 none, Cond.fieldLink RX7 9 "Steamfield$Well" "block" "I", Cond.fieldLink RX7 15 "Steamfield$Well" "isInjector" "Z", Cond.fieldLink RX7 19 "Steamfield$Well" "valve" "I", Cond.fieldLink RX7 22 "Steamfield$Well" "scale" "I", Cond.fieldLink RX7 25 "Steamfield$Well" "crust" "I"]
def wsX8_causedBy_r4 : List Cond := [Cond.fieldLink RX7 28 "Steamfield$Well" "flow" "I", Cond.fieldLink RX7 31 "Steamfield$Well" "steam" "I", Cond.fieldLink RX7 34 "Steamfield$Well" "tracer" "I", Cond.fieldLink RX7 37 "Steamfield$Well" "flowEver" "I", Cond.methodLink RX3 80 yX5_copyFrom, Cond.instanceMethod yX5_copyFrom, Cond.selects RX5 yX5_copyFrom yX5_copyFrom, Cond.initialized RX5, Cond.code yX5_copyFrom cX5_copyFrom 2 none, Cond.fieldLink RX5 7 "Steamfield$Spring" "block" "I", Cond.fieldLink RX5 13 "Steamfield$Spring" "level" "I", Cond.fieldLink RX5 16 "Steamfield$Spring" "promise" "I", Cond.fieldLink RX5 19 "Steamfield$Spring" "flow" "I", Cond.fieldLink RX5 22 "Steamfield$Spring" "lacked" "I", Cond.fieldLink RX5 25 "Steamfield$Spring" "flowEver" "I", Cond.fieldLink RX5 28 "Steamfield$Spring" "lackedEver" "I", Cond.methodLink RX3 83 yX6_copyFrom, Cond.methodLink RX3 86 yX4_copyFrom, Cond.instanceMethod yX4_copyFrom, Cond.selects RX4 yX4_copyFrom yX4_copyFrom, Cond.initialized RX4, Cond.code yX4_copyFrom cX4_copyFrom 2 none, Cond.fieldLink RX4 7 "Steamfield$Plant" "size" "I", Cond.fieldLink RX4 13 "Steamfield$Plant" "isRunning" "Z"]
def wsX8_causedBy_r5 : List Cond := [Cond.fieldLink RX4 17 "Steamfield$Plant" "power" "I", Cond.fieldLink RX4 20 "Steamfield$Plant" "powerEver" "I", Cond.fieldLink RX4 23 "Steamfield$Plant" "need" "I", Cond.fieldLink RX4 26 "Steamfield$Plant" "townHeat" "I", Cond.methodLink RX3 89 yX1_copyFrom, Cond.instanceMethod yX1_copyFrom, Cond.selects RX1 yX1_copyFrom yX1_copyFrom, Cond.initialized RX1, Cond.code yX1_copyFrom cX1_copyFrom 2 none, Cond.fieldLink RX1 10 "Steamfield$Books" "told" "LSteamfield$Water;", Cond.fieldLink RX1 16 "Steamfield$Books" "spilled" "LSteamfield$Water;", Cond.fieldLink RX1 19 "Steamfield$Books" "sprung" "LSteamfield$Water;", Cond.fieldLink RX1 26 "Steamfield$Books" "used" "I", Cond.fieldLink RX1 30 "Steamfield$Books" "vented" "I", Cond.methodLink RX1 22 yX6_copyFrom, Cond.methodLink RX8 169 yX8_powerIn, Cond.static yX8_powerIn, Cond.code yX8_powerIn cX8_powerIn 4 (some .int), Cond.methodLink RX8 251 yX3_step, Cond.instanceMethod yX3_step, Cond.selects RX3 yX3_step yX3_step, Cond.code yX3_step cX3_step 5 none, Cond.methodLink RX3 146 yX3_light, Cond.instanceMethod yX3_light]
def wsX8_causedBy_r6 : List Cond := [Cond.selects RX3 yX3_light yX3_light, Cond.code yX3_light cX3_light 3 (some .int), Cond.methodLink RX3 150 yX3_flowThrough, Cond.instanceMethod yX3_flowThrough, Cond.selects RX3 yX3_flowThrough yX3_flowThrough, Cond.code yX3_flowThrough cX3_flowThrough 9 none, Cond.methodLink RX3 189 Lib.Math.abs.name, Cond.static Lib.Math.abs.name, Cond.initialized "java/lang/Math", Cond.code Lib.Math.abs.name Lib.Math.abs.code 1 (some .int), Cond.fieldLink RX3 63 "Steamfield$Land" "load" "LSteamfield$Water;", Cond.methodLink RX3 216 Lib.Math.min.name, Cond.static Lib.Math.min.name, Cond.code Lib.Math.min.name Lib.Math.min.code 2 (some .int), Cond.methodLink RX3 186 yX0_pressure, Cond.instanceMethod yX0_pressure, Cond.selects RX0 yX0_pressure yX0_pressure, Cond.code yX0_pressure cX0_pressure 1 (some .int), Cond.methodLink RX3 197 yX0_take, Cond.instanceMethod yX0_take, Cond.selects RX0 yX0_take yX0_take, Cond.code yX0_take cX0_take 4 none, Cond.methodLink RX0 33 Lib.Math.min.name, Cond.methodLink RX0 39 yX0_warmth]
def wsX8_causedBy_r7 : List Cond := [Cond.instanceMethod yX0_warmth, Cond.selects RX0 yX0_warmth yX0_warmth, Cond.code yX0_warmth cX0_warmth 2 (some .int), Cond.methodLink RX0 46 yX6_shareOf, Cond.instanceMethod yX6_shareOf, Cond.selects RX6 yX6_shareOf yX6_shareOf, Cond.code yX6_shareOf cX6_shareOf 3 (some .int), Cond.methodLink RX0 52 yX6_remove, Cond.instanceMethod yX6_remove, Cond.selects RX6 yX6_remove yX6_remove, Cond.code yX6_remove cX6_remove 2 none, Cond.methodLink RX3 201 yX6_add, Cond.instanceMethod yX6_add, Cond.selects RX6 yX6_add yX6_add, Cond.code yX6_add cX6_add 2 none, Cond.methodLink RX3 210 yX0_warmth, Cond.methodLink RX3 153 yX3_produce, Cond.instanceMethod yX3_produce, Cond.selects RX3 yX3_produce yX3_produce, Cond.code yX3_produce cX3_produce 7 (some .int), Cond.methodLink RX3 226 Lib.Math.max.name, Cond.static Lib.Math.max.name, Cond.code Lib.Math.max.name Lib.Math.max.code 2 (some .int), Cond.methodLink RX3 229 yX7_note]
def wsX8_causedBy_r8 : List Cond := [Cond.instanceMethod yX7_note, Cond.selects RX7 yX7_note yX7_note, Cond.code yX7_note cX7_note 3 none, Cond.methodLink RX3 236 yX7_growCrust, Cond.instanceMethod yX7_growCrust, Cond.selects RX7 yX7_growCrust yX7_growCrust, Cond.code yX7_growCrust cX7_growCrust 1 none, Cond.methodLink RX7 46 Lib.Math.min.name, Cond.methodLink RX3 157 yX3_drive, Cond.instanceMethod yX3_drive, Cond.selects RX3 yX3_drive yX3_drive, Cond.code yX3_drive cX3_drive 3 none, Cond.methodLink RX3 161 yX3_warmTheTown, Cond.instanceMethod yX3_warmTheTown, Cond.selects RX3 yX3_warmTheTown yX3_warmTheTown, Cond.code yX3_warmTheTown cX3_warmTheTown 2 none, Cond.methodLink RX3 164 yX3_spill, Cond.instanceMethod yX3_spill, Cond.selects RX3 yX3_spill yX3_spill, Cond.code yX3_spill cX3_spill 1 none, Cond.methodLink RX3 263 yX3_drain, Cond.instanceMethod yX3_drain, Cond.selects RX3 yX3_drain yX3_drain, Cond.code yX3_drain cX3_drain 2 none]
def wsX8_causedBy_r9 : List Cond := [Cond.methodLink RX3 266 yX6_shareOf, Cond.methodLink RX3 272 yX6_remove, Cond.methodLink RX3 167 yX3_inject, Cond.instanceMethod yX3_inject, Cond.selects RX3 yX3_inject yX3_inject, Cond.code yX3_inject cX3_inject 7 (some .int), Cond.methodLink RX3 171 yX3_letFlow, Cond.instanceMethod yX3_letFlow, Cond.selects RX3 yX3_letFlow yX3_letFlow, Cond.code yX3_letFlow cX3_letFlow 3 none, Cond.methodLink RX3 279 yX5_note, Cond.instanceMethod yX5_note, Cond.selects RX5 yX5_note yX5_note, Cond.code yX5_note cX5_note 2 none, Cond.methodLink RX5 31 Lib.Math.max.name, Cond.methodLink RX3 174 yX3_shareOut, Cond.instanceMethod yX3_shareOut, Cond.selects RX3 yX3_shareOut yX3_shareOut, Cond.code yX3_shareOut cX3_shareOut 5 none, Cond.methodLink RX3 281 yX3_shareOf, Cond.instanceMethod yX3_shareOf, Cond.selects RX3 yX3_shareOf yX3_shareOf, Cond.code yX3_shareOf cX3_shareOf 4 (some .int), Cond.methodLink RX3 177 yX3_payForLacks]
def wsX8_causedBy_r10 : List Cond := [Cond.instanceMethod yX3_payForLacks, Cond.selects RX3 yX3_payForLacks yX3_payForLacks, Cond.code yX3_payForLacks cX3_payForLacks 4 none]
def wsX8_causedBy : List Cond := .code yX8_causedBy cX8_causedBy 5 (some .int) :: ((wsX8_causedBy_r1 ++ (wsX8_causedBy_r2 ++ (wsX8_causedBy_r3 ++ (wsX8_causedBy_r4 ++ (wsX8_causedBy_r5 ++ (wsX8_causedBy_r6 ++ (wsX8_causedBy_r7 ++ (wsX8_causedBy_r8 ++ (wsX8_causedBy_r9 ++ wsX8_causedBy_r10))))))))) ++ wsX80 ++ wsX30 ++ wsX50 ++ wsX70 ++ wsX00 ++ wsX60 ++ wsX20 ++ wsX40 ++ wsX10 ++ (vx_atS RX8 308 "java/lang/IndexOutOfBoundsException" ["java/lang/RuntimeException", "java/lang/Exception"]).filter goodWord ++ (vx_atS RX8 78 "java/lang/IllegalArgumentException" ["java/lang/RuntimeException", "java/lang/Exception"]).filter goodWord)
def wsX8_bestValves_r1 : List Cond := [Cond.fieldLink RX8 10 "Steamfield" "land" "LSteamfield$Land;", Cond.fieldLink RX8 16 "Steamfield" "trial" "LSteamfield$Land;", Cond.methodLink RX8 19 yX8_needRange, Cond.static yX8_needRange, Cond.initialized RX8, Cond.code yX8_needRange cX8_needRange 3 none, Cond.classLink RX8 74 "java/lang/IllegalArgumentException", Cond.initialized "java/lang/IllegalArgumentException", Cond.methodLink RX8 245 yX3_lackedEver, Cond.instanceMethod yX3_lackedEver, Cond.selects RX3 yX3_lackedEver yX3_lackedEver, Cond.initialized RX3, Cond.code yX3_lackedEver cX3_lackedEver 3 (some .int), Cond.fieldLink RX3 108 "Steamfield$Land" "springCount" "I", Cond.fieldLink RX3 31 "Steamfield$Land" "springs" "[LSteamfield$Spring;", Cond.methodLink RX8 247 yX3_copyFrom, Cond.instanceMethod yX3_copyFrom, Cond.selects RX3 yX3_copyFrom yX3_copyFrom, Cond.code yX3_copyFrom cX3_copyFrom 3 none, Cond.fieldLink RX3 11 "Steamfield$Land" "blocks" "[LSteamfield$Block;", Cond.fieldLink RX3 19 "Steamfield$Land" "faces" "[LSteamfield$Face;", Cond.fieldLink RX3 25 "Steamfield$Land" "wells" "[LSteamfield$Well;", Cond.fieldLink RX3 38 "Steamfield$Land" "pond" "LSteamfield$Water;", Cond.fieldLink RX3 45 "Steamfield$Land" "plant" "LSteamfield$Plant;"]
def wsX8_bestValves_r2 : List Cond := [Cond.fieldLink RX3 52 "Steamfield$Land" "books" "LSteamfield$Books;", Cond.fieldLink RX3 56 "Steamfield$Land" "coins" "[I", Cond.methodLink RX3 92 arraycopyName, Cond.native arraycopyName, Cond.static arraycopyName, Cond.initialized "java/lang/System", Cond.fieldLink RX3 60 "Steamfield$Land" "shocks" "[I", Cond.fieldLink RX3 98 "Steamfield$Land" "blockCount" "I", Cond.fieldLink RX3 102 "Steamfield$Land" "faceCount" "I", Cond.fieldLink RX3 105 "Steamfield$Land" "wellCount" "I", Cond.fieldLink RX3 111 "Steamfield$Land" "now" "I", Cond.methodLink RX3 70 yX0_copyFrom, Cond.instanceMethod yX0_copyFrom, Cond.selects RX0 yX0_copyFrom yX0_copyFrom, Cond.initialized RX0, Cond.code yX0_copyFrom cX0_copyFrom 2 none, Cond.fieldLink RX0 10 "Steamfield$Block" "water" "LSteamfield$Water;", Cond.fieldLink RX0 20 "Steamfield$Block" "volume" "I", Cond.fieldLink RX0 24 "Steamfield$Block" "owner" "I", Cond.methodLink RX0 16 yX6_copyFrom, Cond.instanceMethod yX6_copyFrom, Cond.selects RX6 yX6_copyFrom yX6_copyFrom, Cond.initialized RX6, Cond.code yX6_copyFrom cX6_copyFrom 2 none]
def wsX8_bestValves_r3 : List Cond := [Cond.fieldLink RX6 7 "Steamfield$Water" "mass" "I", Cond.fieldLink RX6 13 "Steamfield$Water" "heat" "I", Cond.fieldLink RX6 16 "Steamfield$Water" "salt" "I", Cond.fieldLink RX6 19 "Steamfield$Water" "tracer" "I", Cond.methodLink RX3 74 yX2_copyFrom, Cond.instanceMethod yX2_copyFrom, Cond.selects RX2 yX2_copyFrom yX2_copyFrom, Cond.initialized RX2, Cond.code yX2_copyFrom cX2_copyFrom 2 none, Cond.fieldLink RX2 7 "Steamfield$Face" "one" "I", Cond.fieldLink RX2 13 "Steamfield$Face" "other" "I", Cond.fieldLink RX2 16 "Steamfield$Face" "open" "I", Cond.fieldLink RX2 19 "Steamfield$Face" "flow" "I", Cond.methodLink RX3 77 yX7_copyFrom, Cond.instanceMethod yX7_copyFrom, Cond.selects RX7 yX7_copyFrom yX7_copyFrom, Cond.initialized RX7, Cond.code yX7_copyFrom cX7_copyFrom 2 none, Cond.fieldLink RX7 9 "Steamfield$Well" "block" "I", Cond.fieldLink RX7 15 "Steamfield$Well" "isInjector" "Z", Cond.fieldLink RX7 19 "Steamfield$Well" "valve" "I", Cond.fieldLink RX7 22 "Steamfield$Well" "scale" "I", Cond.fieldLink RX7 25 "Steamfield$Well" "crust" "I", Cond.fieldLink RX7 28 "Steamfield$Well" "flow" "I"]
def wsX8_bestValves_r4 : List Cond := [Cond.fieldLink RX7 31 "Steamfield$Well" "steam" "I", Cond.fieldLink RX7 34 "Steamfield$Well" "tracer" "I", Cond.fieldLink RX7 37 "Steamfield$Well" "flowEver" "I", Cond.methodLink RX3 80 yX5_copyFrom, Cond.instanceMethod yX5_copyFrom, Cond.selects RX5 yX5_copyFrom yX5_copyFrom, Cond.initialized RX5, Cond.code yX5_copyFrom cX5_copyFrom 2 none, Cond.fieldLink RX5 7 "Steamfield$Spring" "block" "I", Cond.fieldLink RX5 13 "Steamfield$Spring" "level" "I", Cond.fieldLink RX5 16 "Steamfield$Spring" "promise" "I", Cond.fieldLink RX5 19 "Steamfield$Spring" "flow" "I", Cond.fieldLink RX5 22 "Steamfield$Spring" "lacked" "I", Cond.fieldLink RX5 25 "Steamfield$Spring" "flowEver" "I", Cond.fieldLink RX5 28 "Steamfield$Spring" "lackedEver" "I", Cond.methodLink RX3 83 yX6_copyFrom, Cond.methodLink RX3 86 yX4_copyFrom, Cond.instanceMethod yX4_copyFrom, Cond.selects RX4 yX4_copyFrom yX4_copyFrom, Cond.initialized RX4, Cond.code yX4_copyFrom cX4_copyFrom 2 none, Cond.fieldLink RX4 7 "Steamfield$Plant" "size" "I", Cond.fieldLink RX4 13 "Steamfield$Plant" "isRunning" "Z", Cond.fieldLink RX4 17 "Steamfield$Plant" "power" "I"]
def wsX8_bestValves_r5 : List Cond := [Cond.fieldLink RX4 20 "Steamfield$Plant" "powerEver" "I", Cond.fieldLink RX4 23 "Steamfield$Plant" "need" "I", Cond.fieldLink RX4 26 "Steamfield$Plant" "townHeat" "I", Cond.methodLink RX3 89 yX1_copyFrom, Cond.instanceMethod yX1_copyFrom, Cond.selects RX1 yX1_copyFrom yX1_copyFrom, Cond.initialized RX1, Cond.code yX1_copyFrom cX1_copyFrom 2 none, Cond.fieldLink RX1 10 "Steamfield$Books" "told" "LSteamfield$Water;", Cond.fieldLink RX1 16 "Steamfield$Books" "spilled" "LSteamfield$Water;", Cond.fieldLink RX1 19 "Steamfield$Books" "sprung" "LSteamfield$Water;", Cond.fieldLink RX1 26 "Steamfield$Books" "used" "I", Cond.fieldLink RX1 30 "Steamfield$Books" "vented" "I", Cond.methodLink RX1 22 yX6_copyFrom, Cond.methodLink RX8 254 yX3_turnAll, Cond.instanceMethod yX3_turnAll, Cond.selects RX3 yX3_turnAll yX3_turnAll, Cond.code yX3_turnAll cX3_turnAll 4 none, Cond.methodLink RX8 169 yX8_powerIn, Cond.static yX8_powerIn, Cond.code yX8_powerIn cX8_powerIn 4 (some .int), Cond.methodLink RX8 251 yX3_step, Cond.instanceMethod yX3_step, Cond.selects RX3 yX3_step yX3_step]
def wsX8_bestValves_r6 : List Cond := [Cond.code yX3_step cX3_step 5 none, Cond.methodLink RX3 146 yX3_light, Cond.instanceMethod yX3_light, Cond.selects RX3 yX3_light yX3_light, Cond.code yX3_light cX3_light 3 (some .int), Cond.methodLink RX3 150 yX3_flowThrough, Cond.instanceMethod yX3_flowThrough, Cond.selects RX3 yX3_flowThrough yX3_flowThrough, Cond.code yX3_flowThrough cX3_flowThrough 9 none, Cond.methodLink RX3 189 Lib.Math.abs.name, Cond.static Lib.Math.abs.name, Cond.initialized "java/lang/Math", Cond.code Lib.Math.abs.name Lib.Math.abs.code 1 (some .int), Cond.fieldLink RX3 63 "Steamfield$Land" "load" "LSteamfield$Water;", Cond.methodLink RX3 216 Lib.Math.min.name, Cond.static Lib.Math.min.name, Cond.code Lib.Math.min.name Lib.Math.min.code 2 (some .int), Cond.methodLink RX3 186 yX0_pressure, Cond.instanceMethod yX0_pressure, Cond.selects RX0 yX0_pressure yX0_pressure, Cond.code yX0_pressure cX0_pressure 1 (some .int), Cond.methodLink RX3 197 yX0_take, Cond.instanceMethod yX0_take, Cond.selects RX0 yX0_take yX0_take]
def wsX8_bestValves_r7 : List Cond := [Cond.code yX0_take cX0_take 4 none, Cond.methodLink RX0 33 Lib.Math.min.name, Cond.methodLink RX0 39 yX0_warmth, Cond.instanceMethod yX0_warmth, Cond.selects RX0 yX0_warmth yX0_warmth, Cond.code yX0_warmth cX0_warmth 2 (some .int), Cond.methodLink RX0 46 yX6_shareOf, Cond.instanceMethod yX6_shareOf, Cond.selects RX6 yX6_shareOf yX6_shareOf, Cond.code yX6_shareOf cX6_shareOf 3 (some .int), Cond.methodLink RX0 52 yX6_remove, Cond.instanceMethod yX6_remove, Cond.selects RX6 yX6_remove yX6_remove, Cond.code yX6_remove cX6_remove 2 none, Cond.methodLink RX3 201 yX6_add, Cond.instanceMethod yX6_add, Cond.selects RX6 yX6_add yX6_add, Cond.code yX6_add cX6_add 2 none, Cond.methodLink RX3 210 yX0_warmth, Cond.methodLink RX3 153 yX3_produce, Cond.instanceMethod yX3_produce, Cond.selects RX3 yX3_produce yX3_produce, Cond.code yX3_produce cX3_produce 7 (some .int), Cond.methodLink RX3 226 Lib.Math.max.name]
def wsX8_bestValves_r8 : List Cond := [Cond.static Lib.Math.max.name, Cond.code Lib.Math.max.name Lib.Math.max.code 2 (some .int), Cond.methodLink RX3 229 yX7_note, Cond.instanceMethod yX7_note, Cond.selects RX7 yX7_note yX7_note, Cond.code yX7_note cX7_note 3 none, Cond.methodLink RX3 236 yX7_growCrust, Cond.instanceMethod yX7_growCrust, Cond.selects RX7 yX7_growCrust yX7_growCrust, Cond.code yX7_growCrust cX7_growCrust 1 none, Cond.methodLink RX7 46 Lib.Math.min.name, Cond.methodLink RX3 157 yX3_drive, Cond.instanceMethod yX3_drive, Cond.selects RX3 yX3_drive yX3_drive, Cond.code yX3_drive cX3_drive 3 none, Cond.methodLink RX3 161 yX3_warmTheTown, Cond.instanceMethod yX3_warmTheTown, Cond.selects RX3 yX3_warmTheTown yX3_warmTheTown, Cond.code yX3_warmTheTown cX3_warmTheTown 2 none, Cond.methodLink RX3 164 yX3_spill, Cond.instanceMethod yX3_spill, Cond.selects RX3 yX3_spill yX3_spill, Cond.code yX3_spill cX3_spill 1 none, Cond.methodLink RX3 263 yX3_drain]
def wsX8_bestValves_r9 : List Cond := [Cond.instanceMethod yX3_drain, Cond.selects RX3 yX3_drain yX3_drain, Cond.code yX3_drain cX3_drain 2 none, Cond.methodLink RX3 266 yX6_shareOf, Cond.methodLink RX3 272 yX6_remove, Cond.methodLink RX3 167 yX3_inject, Cond.instanceMethod yX3_inject, Cond.selects RX3 yX3_inject yX3_inject, Cond.code yX3_inject cX3_inject 7 (some .int), Cond.methodLink RX3 171 yX3_letFlow, Cond.instanceMethod yX3_letFlow, Cond.selects RX3 yX3_letFlow yX3_letFlow, Cond.code yX3_letFlow cX3_letFlow 3 none, Cond.methodLink RX3 279 yX5_note, Cond.instanceMethod yX5_note, Cond.selects RX5 yX5_note yX5_note, Cond.code yX5_note cX5_note 2 none, Cond.methodLink RX5 31 Lib.Math.max.name, Cond.methodLink RX3 174 yX3_shareOut, Cond.instanceMethod yX3_shareOut, Cond.selects RX3 yX3_shareOut yX3_shareOut, Cond.code yX3_shareOut cX3_shareOut 5 none, Cond.methodLink RX3 281 yX3_shareOf, Cond.instanceMethod yX3_shareOf]
def wsX8_bestValves_r10 : List Cond := [Cond.selects RX3 yX3_shareOf yX3_shareOf, Cond.code yX3_shareOf cX3_shareOf 4 (some .int), Cond.methodLink RX3 177 yX3_payForLacks, Cond.instanceMethod yX3_payForLacks, Cond.selects RX3 yX3_payForLacks yX3_payForLacks, Cond.code yX3_payForLacks cX3_payForLacks 4 none]
def wsX8_bestValves : List Cond := .code yX8_bestValves cX8_bestValves 9 (some .int) :: ((wsX8_bestValves_r1 ++ (wsX8_bestValves_r2 ++ (wsX8_bestValves_r3 ++ (wsX8_bestValves_r4 ++ (wsX8_bestValves_r5 ++ (wsX8_bestValves_r6 ++ (wsX8_bestValves_r7 ++ (wsX8_bestValves_r8 ++ (wsX8_bestValves_r9 ++ wsX8_bestValves_r10))))))))) ++ wsX80 ++ wsX30 ++ wsX50 ++ wsX00 ++ wsX60 ++ wsX20 ++ wsX70 ++ wsX40 ++ wsX10 ++ (vx_atS RX8 78 "java/lang/IllegalArgumentException" ["java/lang/RuntimeException", "java/lang/Exception"]).filter goodWord)
def wsX8_digest_r1 : List Cond := [Cond.constantLong RX8 257 (58177), Cond.constantLong RX8 259 (31), Cond.fieldLink RX8 10 "Steamfield" "land" "LSteamfield$Land;", Cond.methodLink RX8 261 yX8_many, Cond.instanceMethod yX8_many, Cond.selects RX8 yX8_many yX8_many, Cond.initialized RX8, Cond.code yX8_many cX8_many 2 (some .int), Cond.methodLink RX8 19 yX8_needRange, Cond.static yX8_needRange, Cond.code yX8_needRange cX8_needRange 3 none, Cond.classLink RX8 74 "java/lang/IllegalArgumentException", Cond.initialized "java/lang/IllegalArgumentException", Cond.methodLink RX8 230 yX3_light, Cond.instanceMethod yX3_light, Cond.selects RX3 yX3_light yX3_light, Cond.initialized RX3, Cond.code yX3_light cX3_light 3 (some .int), Cond.fieldLink RX3 60 "Steamfield$Land" "shocks" "[I", Cond.methodLink RX8 233 yX3_lastShock, Cond.instanceMethod yX3_lastShock, Cond.selects RX3 yX3_lastShock yX3_lastShock, Cond.code yX3_lastShock cX3_lastShock 1 (some .int), Cond.fieldLink RX3 111 "Steamfield$Land" "now" "I"]
def wsX8_digest_r2 : List Cond := [Cond.methodLink RX8 245 yX3_lackedEver, Cond.instanceMethod yX3_lackedEver, Cond.selects RX3 yX3_lackedEver yX3_lackedEver, Cond.code yX3_lackedEver cX3_lackedEver 3 (some .int), Cond.fieldLink RX3 108 "Steamfield$Land" "springCount" "I", Cond.fieldLink RX3 31 "Steamfield$Land" "springs" "[LSteamfield$Spring;", Cond.methodLink RX8 264 yX8_ofBlock, Cond.instanceMethod yX8_ofBlock, Cond.selects RX8 yX8_ofBlock yX8_ofBlock, Cond.code yX8_ofBlock cX8_ofBlock 4 (some .int), Cond.methodLink RX8 71 yX8_needIndex, Cond.static yX8_needIndex, Cond.code yX8_needIndex cX8_needIndex 2 none, Cond.classLink RX8 304 "java/lang/IndexOutOfBoundsException", Cond.initialized "java/lang/IndexOutOfBoundsException", Cond.methodLink RX8 173 yX0_pressure, Cond.instanceMethod yX0_pressure, Cond.selects RX0 yX0_pressure yX0_pressure, Cond.initialized RX0, Cond.code yX0_pressure cX0_pressure 1 (some .int), Cond.fieldLink RX0 20 "Steamfield$Block" "volume" "I", Cond.fieldLink RX0 10 "Steamfield$Block" "water" "LSteamfield$Water;", Cond.methodLink RX8 177 yX0_warmth, Cond.instanceMethod yX0_warmth]
def wsX8_digest_r3 : List Cond := [Cond.selects RX0 yX0_warmth yX0_warmth, Cond.code yX0_warmth cX0_warmth 2 (some .int), Cond.methodLink RX8 180 yX6_part, Cond.instanceMethod yX6_part, Cond.selects RX6 yX6_part yX6_part, Cond.initialized RX6, Cond.code yX6_part cX6_part 2 (some .int), Cond.fieldLink RX6 7 "Steamfield$Water" "mass" "I", Cond.fieldLink RX6 13 "Steamfield$Water" "heat" "I", Cond.fieldLink RX6 16 "Steamfield$Water" "salt" "I", Cond.fieldLink RX6 19 "Steamfield$Water" "tracer" "I", Cond.methodLink RX8 268 yX8_ofWell, Cond.instanceMethod yX8_ofWell, Cond.selects RX8 yX8_ofWell yX8_ofWell, Cond.code yX8_ofWell cX8_ofWell 4 (some .int), Cond.methodLink RX8 271 yX8_coldIn, Cond.instanceMethod yX8_coldIn, Cond.selects RX8 yX8_coldIn yX8_coldIn, Cond.code yX8_coldIn cX8_coldIn 5 (some .int), Cond.fieldLink RX8 16 "Steamfield" "trial" "LSteamfield$Land;", Cond.methodLink RX8 247 yX3_copyFrom, Cond.instanceMethod yX3_copyFrom, Cond.selects RX3 yX3_copyFrom yX3_copyFrom, Cond.code yX3_copyFrom cX3_copyFrom 3 none]
def wsX8_digest_r4 : List Cond := [Cond.fieldLink RX3 11 "Steamfield$Land" "blocks" "[LSteamfield$Block;", Cond.fieldLink RX3 19 "Steamfield$Land" "faces" "[LSteamfield$Face;", Cond.fieldLink RX3 25 "Steamfield$Land" "wells" "[LSteamfield$Well;", Cond.fieldLink RX3 38 "Steamfield$Land" "pond" "LSteamfield$Water;", Cond.fieldLink RX3 45 "Steamfield$Land" "plant" "LSteamfield$Plant;", Cond.fieldLink RX3 52 "Steamfield$Land" "books" "LSteamfield$Books;", Cond.fieldLink RX3 56 "Steamfield$Land" "coins" "[I", Cond.methodLink RX3 92 arraycopyName, Cond.native arraycopyName, Cond.static arraycopyName, Cond.initialized "java/lang/System", Cond.fieldLink RX3 98 "Steamfield$Land" "blockCount" "I", Cond.fieldLink RX3 102 "Steamfield$Land" "faceCount" "I", Cond.fieldLink RX3 105 "Steamfield$Land" "wellCount" "I", Cond.methodLink RX3 70 yX0_copyFrom, Cond.instanceMethod yX0_copyFrom, Cond.selects RX0 yX0_copyFrom yX0_copyFrom, Cond.code yX0_copyFrom cX0_copyFrom 2 none, Cond.fieldLink RX0 24 "Steamfield$Block" "owner" "I", Cond.methodLink RX0 16 yX6_copyFrom, Cond.instanceMethod yX6_copyFrom, Cond.selects RX6 yX6_copyFrom yX6_copyFrom, Cond.code yX6_copyFrom cX6_copyFrom 2 none, Cond.methodLink RX3 74 yX2_copyFrom]
def wsX8_digest_r5 : List Cond := [Cond.instanceMethod yX2_copyFrom, Cond.selects RX2 yX2_copyFrom yX2_copyFrom, Cond.initialized RX2, Cond.code yX2_copyFrom cX2_copyFrom 2 none, Cond.fieldLink RX2 7 "Steamfield$Face" "one" "I", Cond.fieldLink RX2 13 "Steamfield$Face" "other" "I", Cond.fieldLink RX2 16 "Steamfield$Face" "open" "I", Cond.fieldLink RX2 19 "Steamfield$Face" "flow" "I", Cond.methodLink RX3 77 yX7_copyFrom, Cond.instanceMethod yX7_copyFrom, Cond.selects RX7 yX7_copyFrom yX7_copyFrom, Cond.initialized RX7, Cond.code yX7_copyFrom cX7_copyFrom 2 none, Cond.fieldLink RX7 9 "Steamfield$Well" "block" "I", Cond.fieldLink RX7 15 "Steamfield$Well" "isInjector" "Z", Cond.fieldLink RX7 19 "Steamfield$Well" "valve" "I", Cond.fieldLink RX7 22 "Steamfield$Well" "scale" "I", Cond.fieldLink RX7 25 "Steamfield$Well" "crust" "I", Cond.fieldLink RX7 28 "Steamfield$Well" "flow" "I", Cond.fieldLink RX7 31 "Steamfield$Well" "steam" "I", Cond.fieldLink RX7 34 "Steamfield$Well" "tracer" "I", Cond.fieldLink RX7 37 "Steamfield$Well" "flowEver" "I", Cond.methodLink RX3 80 yX5_copyFrom, Cond.instanceMethod yX5_copyFrom]
def wsX8_digest_r6 : List Cond := [Cond.selects RX5 yX5_copyFrom yX5_copyFrom, Cond.initialized RX5, Cond.code yX5_copyFrom cX5_copyFrom 2 none, Cond.fieldLink RX5 7 "Steamfield$Spring" "block" "I", Cond.fieldLink RX5 13 "Steamfield$Spring" "level" "I", Cond.fieldLink RX5 16 "Steamfield$Spring" "promise" "I", Cond.fieldLink RX5 19 "Steamfield$Spring" "flow" "I", Cond.fieldLink RX5 22 "Steamfield$Spring" "lacked" "I", Cond.fieldLink RX5 25 "Steamfield$Spring" "flowEver" "I", Cond.fieldLink RX5 28 "Steamfield$Spring" "lackedEver" "I", Cond.methodLink RX3 83 yX6_copyFrom, Cond.methodLink RX3 86 yX4_copyFrom, Cond.instanceMethod yX4_copyFrom, Cond.selects RX4 yX4_copyFrom yX4_copyFrom, Cond.initialized RX4, Cond.code yX4_copyFrom cX4_copyFrom 2 none, Cond.fieldLink RX4 7 "Steamfield$Plant" "size" "I", Cond.fieldLink RX4 13 "Steamfield$Plant" "isRunning" "Z", Cond.fieldLink RX4 17 "Steamfield$Plant" "power" "I", Cond.fieldLink RX4 20 "Steamfield$Plant" "powerEver" "I", Cond.fieldLink RX4 23 "Steamfield$Plant" "need" "I", Cond.fieldLink RX4 26 "Steamfield$Plant" "townHeat" "I", Cond.methodLink RX3 89 yX1_copyFrom, Cond.instanceMethod yX1_copyFrom]
def wsX8_digest_r7 : List Cond := [Cond.selects RX1 yX1_copyFrom yX1_copyFrom, Cond.initialized RX1, Cond.code yX1_copyFrom cX1_copyFrom 2 none, Cond.fieldLink RX1 10 "Steamfield$Books" "told" "LSteamfield$Water;", Cond.fieldLink RX1 16 "Steamfield$Books" "spilled" "LSteamfield$Water;", Cond.fieldLink RX1 19 "Steamfield$Books" "sprung" "LSteamfield$Water;", Cond.fieldLink RX1 26 "Steamfield$Books" "used" "I", Cond.fieldLink RX1 30 "Steamfield$Books" "vented" "I", Cond.methodLink RX1 22 yX6_copyFrom, Cond.methodLink RX8 251 yX3_step, Cond.instanceMethod yX3_step, Cond.selects RX3 yX3_step yX3_step, Cond.code yX3_step cX3_step 5 none, Cond.methodLink RX3 146 yX3_light, Cond.methodLink RX3 150 yX3_flowThrough, Cond.instanceMethod yX3_flowThrough, Cond.selects RX3 yX3_flowThrough yX3_flowThrough, Cond.code yX3_flowThrough cX3_flowThrough 9 none, Cond.methodLink RX3 189 Lib.Math.abs.name, Cond.static Lib.Math.abs.name, Cond.initialized "java/lang/Math", Cond.code Lib.Math.abs.name Lib.Math.abs.code 1 (some .int), Cond.fieldLink RX3 63 "Steamfield$Land" "load" "LSteamfield$Water;", Cond.methodLink RX3 216 Lib.Math.min.name]
def wsX8_digest_r8 : List Cond := [Cond.static Lib.Math.min.name, Cond.code Lib.Math.min.name Lib.Math.min.code 2 (some .int), Cond.methodLink RX3 186 yX0_pressure, Cond.methodLink RX3 197 yX0_take, Cond.instanceMethod yX0_take, Cond.selects RX0 yX0_take yX0_take, Cond.code yX0_take cX0_take 4 none, Cond.methodLink RX0 33 Lib.Math.min.name, Cond.methodLink RX0 39 yX0_warmth, Cond.methodLink RX0 46 yX6_shareOf, Cond.instanceMethod yX6_shareOf, Cond.selects RX6 yX6_shareOf yX6_shareOf, Cond.code yX6_shareOf cX6_shareOf 3 (some .int), Cond.methodLink RX0 52 yX6_remove, Cond.instanceMethod yX6_remove, Cond.selects RX6 yX6_remove yX6_remove, Cond.code yX6_remove cX6_remove 2 none, Cond.methodLink RX3 201 yX6_add, Cond.instanceMethod yX6_add, Cond.selects RX6 yX6_add yX6_add, Cond.code yX6_add cX6_add 2 none, Cond.methodLink RX3 210 yX0_warmth, Cond.methodLink RX3 153 yX3_produce, Cond.instanceMethod yX3_produce]
def wsX8_digest_r9 : List Cond := [Cond.selects RX3 yX3_produce yX3_produce, Cond.code yX3_produce cX3_produce 7 (some .int), Cond.methodLink RX3 226 Lib.Math.max.name, Cond.static Lib.Math.max.name, Cond.code Lib.Math.max.name Lib.Math.max.code 2 (some .int), Cond.methodLink RX3 229 yX7_note, Cond.instanceMethod yX7_note, Cond.selects RX7 yX7_note yX7_note, Cond.code yX7_note cX7_note 3 none, Cond.methodLink RX3 236 yX7_growCrust, Cond.instanceMethod yX7_growCrust, Cond.selects RX7 yX7_growCrust yX7_growCrust, Cond.code yX7_growCrust cX7_growCrust 1 none, Cond.methodLink RX7 46 Lib.Math.min.name, Cond.methodLink RX3 157 yX3_drive, Cond.instanceMethod yX3_drive, Cond.selects RX3 yX3_drive yX3_drive, Cond.code yX3_drive cX3_drive 3 none, Cond.methodLink RX3 161 yX3_warmTheTown, Cond.instanceMethod yX3_warmTheTown, Cond.selects RX3 yX3_warmTheTown yX3_warmTheTown, Cond.code yX3_warmTheTown cX3_warmTheTown 2 none, Cond.methodLink RX3 164 yX3_spill, Cond.instanceMethod yX3_spill]
def wsX8_digest_r10 : List Cond := [Cond.selects RX3 yX3_spill yX3_spill, Cond.code yX3_spill cX3_spill 1 none, Cond.methodLink RX3 263 yX3_drain, Cond.instanceMethod yX3_drain, Cond.selects RX3 yX3_drain yX3_drain, Cond.code yX3_drain cX3_drain 2 none, Cond.methodLink RX3 266 yX6_shareOf, Cond.methodLink RX3 272 yX6_remove, Cond.methodLink RX3 167 yX3_inject, Cond.instanceMethod yX3_inject, Cond.selects RX3 yX3_inject yX3_inject, Cond.code yX3_inject cX3_inject 7 (some .int), Cond.methodLink RX3 171 yX3_letFlow, Cond.instanceMethod yX3_letFlow, Cond.selects RX3 yX3_letFlow yX3_letFlow, Cond.code yX3_letFlow cX3_letFlow 3 none, Cond.methodLink RX3 279 yX5_note, Cond.instanceMethod yX5_note, Cond.selects RX5 yX5_note yX5_note, Cond.code yX5_note cX5_note 2 none, Cond.methodLink RX5 31 Lib.Math.max.name, Cond.methodLink RX3 174 yX3_shareOut, Cond.instanceMethod yX3_shareOut, Cond.selects RX3 yX3_shareOut yX3_shareOut]
def wsX8_digest_r11 : List Cond := [Cond.code yX3_shareOut cX3_shareOut 5 none, Cond.methodLink RX3 281 yX3_shareOf, Cond.instanceMethod yX3_shareOf, Cond.selects RX3 yX3_shareOf yX3_shareOf, Cond.code yX3_shareOf cX3_shareOf 4 (some .int), Cond.methodLink RX3 177 yX3_payForLacks, Cond.instanceMethod yX3_payForLacks, Cond.selects RX3 yX3_payForLacks yX3_payForLacks, Cond.code yX3_payForLacks cX3_payForLacks 4 none, Cond.methodLink RX8 274 yX8_ofFace, Cond.instanceMethod yX8_ofFace, Cond.selects RX8 yX8_ofFace yX8_ofFace, Cond.code yX8_ofFace cX8_ofFace 3 (some .int), Cond.methodLink RX8 278 yX8_ofSpring, Cond.instanceMethod yX8_ofSpring, Cond.selects RX8 yX8_ofSpring yX8_ofSpring, Cond.code yX8_ofSpring cX8_ofSpring 4 (some .int), Cond.methodLink RX8 281 yX8_causedBy, Cond.instanceMethod yX8_causedBy, Cond.selects RX8 yX8_causedBy yX8_causedBy, Cond.code yX8_causedBy cX8_causedBy 5 (some .int), Cond.methodLink RX8 169 yX8_powerIn, Cond.static yX8_powerIn, Cond.code yX8_powerIn cX8_powerIn 4 (some .int)]
def wsX8_digest_r12 : List Cond := [Cond.methodLink RX8 285 yX8_pond, Cond.instanceMethod yX8_pond, Cond.selects RX8 yX8_pond yX8_pond, Cond.code yX8_pond cX8_pond 2 (some .int), Cond.methodLink RX8 287 yX8_ofOwner, Cond.instanceMethod yX8_ofOwner, Cond.selects RX8 yX8_ofOwner yX8_ofOwner, Cond.code yX8_ofOwner cX8_ofOwner 3 (some .int), Cond.methodLink RX8 206 yX3_shareOf, Cond.methodLink RX8 290 yX8_mass, Cond.instanceMethod yX8_mass, Cond.selects RX8 yX8_mass yX8_mass, Cond.code yX8_mass cX8_mass 2 (some .int), Cond.methodLink RX8 209 yX3_inBlocks, Cond.instanceMethod yX3_inBlocks, Cond.selects RX3 yX3_inBlocks yX3_inBlocks, Cond.code yX3_inBlocks cX3_inBlocks 4 (some .int), Cond.methodLink RX3 126 yX6_part, Cond.methodLink RX8 292 yX8_isClosed, Cond.instanceMethod yX8_isClosed, Cond.selects RX8 yX8_isClosed yX8_isClosed, Cond.code yX8_isClosed cX8_isClosed 2 (some .boolean), Cond.methodLink RX8 224 yX3_accountedFor, Cond.instanceMethod yX3_accountedFor]
def wsX8_digest_r13 : List Cond := [Cond.selects RX3 yX3_accountedFor yX3_accountedFor, Cond.code yX3_accountedFor cX3_accountedFor 2 (some .int), Cond.methodLink RX3 130 yX3_inBlocks, Cond.methodLink RX8 296 yX8_wouldGive, Cond.instanceMethod yX8_wouldGive, Cond.selects RX8 yX8_wouldGive yX8_wouldGive, Cond.code yX8_wouldGive cX8_wouldGive 2 (some .int), Cond.methodLink RX8 299 yX8_bestValves, Cond.instanceMethod yX8_bestValves, Cond.selects RX8 yX8_bestValves yX8_bestValves, Cond.code yX8_bestValves cX8_bestValves 9 (some .int), Cond.methodLink RX8 254 yX3_turnAll, Cond.instanceMethod yX3_turnAll, Cond.selects RX3 yX3_turnAll yX3_turnAll, Cond.code yX3_turnAll cX3_turnAll 4 none]
def wsX8_digest : List Cond := .code yX8_digest cX8_digest 5 (some .long) :: ((wsX8_digest_r1 ++ (wsX8_digest_r2 ++ (wsX8_digest_r3 ++ (wsX8_digest_r4 ++ (wsX8_digest_r5 ++ (wsX8_digest_r6 ++ (wsX8_digest_r7 ++ (wsX8_digest_r8 ++ (wsX8_digest_r9 ++ (wsX8_digest_r10 ++ (wsX8_digest_r11 ++ (wsX8_digest_r12 ++ wsX8_digest_r13)))))))))))) ++ wsX80 ++ wsX30 ++ wsX40 ++ wsX50 ++ wsX00 ++ wsX60 ++ wsX70 ++ wsX20 ++ wsX10 ++ (vx_atS RX8 78 "java/lang/IllegalArgumentException" ["java/lang/RuntimeException", "java/lang/Exception"]).filter goodWord ++ (vx_atS RX8 308 "java/lang/IndexOutOfBoundsException" ["java/lang/RuntimeException", "java/lang/Exception"]).filter goodWord)
def wsJ9_abs_0f7a4 : List Cond := .code yJ9_abs_0f7a4 cJ9_abs_0f7a4 1 (some .int) :: ([])
def wsJ9_max_7cf53 : List Cond := .code yJ9_max_7cf53 cJ9_max_7cf53 2 (some .int) :: ([])
def wsJ9_min_7cf53 : List Cond := .code yJ9_min_7cf53 cJ9_min_7cf53 2 (some .int) :: ([])
set_option maxRecDepth 20000 in
theorem ggX0_init_X6_init : GoodIn wsX0_init wsX6_init := goodIn_r _ [9, 10, 2, 3] (by decide +kernel) (by decide +kernel)
set_option maxRecDepth 20000 in
theorem gX0_init_X6_init_n9 : GoodIn wsX0_init (wsX6_init) := ggX0_init_X6_init
set_option maxRecDepth 20000 in
theorem ggX0_copyFrom_X6_copyFrom : GoodIn wsX0_copyFrom wsX6_copyFrom := goodIn_r _ [8, 9, 10, 11, 12, 16, 17, 18, 19] (by decide +kernel) (by decide +kernel)
set_option maxRecDepth 20000 in
theorem gX0_copyFrom_X6_copyFrom : GoodIn wsX0_copyFrom (wsV RX0 16 RX6 yX6_copyFrom wsX6_copyFrom) := goodIn_app (goodIn_of _ (by decide +kernel)) ggX0_copyFrom_X6_copyFrom
set_option maxRecDepth 20000 in
theorem ggX0_take_X0_warmth : GoodIn wsX0_take wsX0_warmth := goodIn_r _ [10, 11, 1, 25, 26, 27, 28, 29, 30, 31] (by decide +kernel) (by decide +kernel)
set_option maxRecDepth 20000 in
theorem gX0_take_X0_warmth : GoodIn wsX0_take (wsV RX0 39 RX0 yX0_warmth wsX0_warmth) := goodIn_app (goodIn_of _ (by decide +kernel)) ggX0_take_X0_warmth
set_option maxRecDepth 20000 in
theorem ggX0_take_X6_shareOf : GoodIn wsX0_take wsX6_shareOf := goodIn_r _ [16, 17, 28, 29, 30, 31] (by decide +kernel) (by decide +kernel)
set_option maxRecDepth 20000 in
theorem gX0_take_X6_shareOf : GoodIn wsX0_take (wsV RX0 46 RX6 yX6_shareOf wsX6_shareOf) := goodIn_app (goodIn_of _ (by decide +kernel)) ggX0_take_X6_shareOf
set_option maxRecDepth 20000 in
theorem ggX0_take_X6_remove : GoodIn wsX0_take wsX6_remove := goodIn_r _ [21, 17, 22, 23, 24, 28, 29, 30, 31] (by decide +kernel) (by decide +kernel)
set_option maxRecDepth 20000 in
theorem gX0_take_X6_remove : GoodIn wsX0_take (wsV RX0 52 RX6 yX6_remove wsX6_remove) := goodIn_app (goodIn_of _ (by decide +kernel)) ggX0_take_X6_remove
set_option maxRecDepth 20000 in
theorem ggX1_init_X6_init : GoodIn wsX1_init wsX6_init := goodIn_r _ [11, 12, 2, 3] (by decide +kernel) (by decide +kernel)
set_option maxRecDepth 20000 in
theorem gX1_init_X6_init_n9 : GoodIn wsX1_init (wsX6_init) := ggX1_init_X6_init
set_option maxRecDepth 20000 in
theorem ggX1_copyFrom_X6_copyFrom : GoodIn wsX1_copyFrom wsX6_copyFrom := goodIn_r _ [10, 11, 12, 13, 14, 20, 21, 22, 23] (by decide +kernel) (by decide +kernel)
set_option maxRecDepth 20000 in
theorem gX1_copyFrom_X6_copyFrom : GoodIn wsX1_copyFrom (wsV RX1 22 RX6 yX6_copyFrom wsX6_copyFrom) := goodIn_app (goodIn_of _ (by decide +kernel)) ggX1_copyFrom_X6_copyFrom
set_option maxRecDepth 20000 in
theorem ggX3_init_X6_init : GoodIn wsX3_init wsX6_init := goodIn_r _ [37, 38, 2, 3] (by decide +kernel) (by decide +kernel)
set_option maxRecDepth 20000 in
theorem gX3_init_X6_init_n37 : GoodIn wsX3_init (wsX6_init) := ggX3_init_X6_init
set_option maxRecDepth 20000 in
theorem ggX3_init_X4_init : GoodIn wsX3_init wsX4_init := goodIn_r _ [40, 41, 2, 3, 42, 43, 84, 85, 86, 87, 88, 89] (by decide +kernel) (by decide +kernel)
set_option maxRecDepth 20000 in
theorem gX3_init_X4_init_n44 : GoodIn wsX3_init (wsX4_init) := ggX3_init_X4_init
set_option maxRecDepth 20000 in
theorem ggX3_init_X1_init : GoodIn wsX3_init wsX1_init := goodIn_r _ [45, 46, 2, 3, 47, 13, 14, 48, 49, 50, 36, 37, 38, 80, 81, 82, 83, 90, 91, 92, 93, 94] (by decide +kernel) (by decide +kernel)
set_option maxRecDepth 20000 in
theorem gX3_init_X1_init_n51 : GoodIn wsX3_init (wsX1_init) := ggX3_init_X1_init
set_option maxRecDepth 20000 in
theorem ggX3_init_X0_init : GoodIn wsX3_init wsX0_init := goodIn_r _ [52, 53, 2, 3, 54, 13, 14, 55, 36, 37, 38, 80, 81, 82, 83, 95, 96, 97] (by decide +kernel) (by decide +kernel)
set_option maxRecDepth 20000 in
theorem gX3_init_X0_init_n66 : GoodIn wsX3_init (wsX0_init) := ggX3_init_X0_init
set_option maxRecDepth 20000 in
theorem ggX3_init_X2_init : GoodIn wsX3_init wsX2_init := goodIn_r _ [57, 58, 2, 3] (by decide +kernel) (by decide +kernel)
set_option maxRecDepth 20000 in
theorem gX3_init_X2_init_n67 : GoodIn wsX3_init (wsX2_init) := ggX3_init_X2_init
set_option maxRecDepth 20000 in
theorem ggX3_init_X7_init : GoodIn wsX3_init wsX7_init := goodIn_r _ [60, 61, 2, 3] (by decide +kernel) (by decide +kernel)
set_option maxRecDepth 20000 in
theorem gX3_init_X7_init_n68 : GoodIn wsX3_init (wsX7_init) := ggX3_init_X7_init
set_option maxRecDepth 20000 in
theorem ggX3_init_X5_init : GoodIn wsX3_init wsX5_init := goodIn_r _ [63, 64, 2, 3] (by decide +kernel) (by decide +kernel)
set_option maxRecDepth 20000 in
theorem gX3_init_X5_init_n69 : GoodIn wsX3_init (wsX5_init) := ggX3_init_X5_init
set_option maxRecDepth 20000 in
theorem ggX3_copyFrom_X0_copyFrom : GoodIn wsX3_copyFrom wsX0_copyFrom := goodIn_r _ [23, 24, 25, 26, 27, 28, 29, 30, 31, 32, 33, 34, 35, 109, 110, 111, 112, 113, 114, 115] (by decide +kernel) (by decide +kernel)
set_option maxRecDepth 20000 in
theorem gX3_copyFrom_X0_copyFrom : GoodIn wsX3_copyFrom (wsV RX3 70 RX0 yX0_copyFrom wsX0_copyFrom) := goodIn_app (goodIn_of _ (by decide +kernel)) ggX3_copyFrom_X0_copyFrom
set_option maxRecDepth 20000 in
theorem ggX3_copyFrom_X2_copyFrom : GoodIn wsX3_copyFrom wsX2_copyFrom := goodIn_r _ [40, 41, 42, 43, 44, 116, 117, 118, 119] (by decide +kernel) (by decide +kernel)
set_option maxRecDepth 20000 in
theorem gX3_copyFrom_X2_copyFrom : GoodIn wsX3_copyFrom (wsV RX3 74 RX2 yX2_copyFrom wsX2_copyFrom) := goodIn_app (goodIn_of _ (by decide +kernel)) ggX3_copyFrom_X2_copyFrom
set_option maxRecDepth 20000 in
theorem ggX3_copyFrom_X7_copyFrom : GoodIn wsX3_copyFrom wsX7_copyFrom := goodIn_r _ [49, 50, 51, 52, 53, 54, 55, 56, 57, 58, 120, 121, 122, 123, 124, 125, 126, 127, 128] (by decide +kernel) (by decide +kernel)
set_option maxRecDepth 20000 in
theorem gX3_copyFrom_X7_copyFrom : GoodIn wsX3_copyFrom (wsV RX3 77 RX7 yX7_copyFrom wsX7_copyFrom) := goodIn_app (goodIn_of _ (by decide +kernel)) ggX3_copyFrom_X7_copyFrom
set_option maxRecDepth 20000 in
theorem ggX3_copyFrom_X5_copyFrom : GoodIn wsX3_copyFrom wsX5_copyFrom := goodIn_r _ [63, 64, 65, 66, 67, 68, 69, 70, 129, 130, 131, 132, 133, 134, 135] (by decide +kernel) (by decide +kernel)
set_option maxRecDepth 20000 in
theorem gX3_copyFrom_X5_copyFrom : GoodIn wsX3_copyFrom (wsV RX3 80 RX5 yX5_copyFrom wsX5_copyFrom) := goodIn_app (goodIn_of _ (by decide +kernel)) ggX3_copyFrom_X5_copyFrom
set_option maxRecDepth 20000 in
theorem ggX3_copyFrom_X6_copyFrom : GoodIn wsX3_copyFrom wsX6_copyFrom := goodIn_r _ [31, 32, 33, 34, 35, 112, 113, 114, 115] (by decide +kernel) (by decide +kernel)
set_option maxRecDepth 20000 in
theorem gX3_copyFrom_X6_copyFrom : GoodIn wsX3_copyFrom (wsV RX3 83 RX6 yX6_copyFrom wsX6_copyFrom) := goodIn_app (goodIn_of _ (by decide +kernel)) ggX3_copyFrom_X6_copyFrom
set_option maxRecDepth 20000 in
theorem ggX3_copyFrom_X4_copyFrom : GoodIn wsX3_copyFrom wsX4_copyFrom := goodIn_r _ [76, 77, 78, 79, 80, 81, 82, 136, 137, 138, 139, 140, 141] (by decide +kernel) (by decide +kernel)
set_option maxRecDepth 20000 in
theorem gX3_copyFrom_X4_copyFrom : GoodIn wsX3_copyFrom (wsV RX3 86 RX4 yX4_copyFrom wsX4_copyFrom) := goodIn_app (goodIn_of _ (by decide +kernel)) ggX3_copyFrom_X4_copyFrom
set_option maxRecDepth 20000 in
theorem ggX3_copyFrom_X1_copyFrom : GoodIn wsX3_copyFrom wsX1_copyFrom := goodIn_r _ [87, 88, 89, 90, 91, 92, 93, 28, 29, 30, 31, 32, 33, 34, 35, 142, 143, 144, 145, 146, 112, 113, 114, 115] (by decide +kernel) (by decide +kernel)
set_option maxRecDepth 20000 in
theorem gX3_copyFrom_X1_copyFrom : GoodIn wsX3_copyFrom (wsV RX3 89 RX1 yX1_copyFrom wsX1_copyFrom) := goodIn_app (goodIn_of _ (by decide +kernel)) ggX3_copyFrom_X1_copyFrom
set_option maxRecDepth 20000 in
theorem ggX3_inBlocks_X6_part : GoodIn wsX3_inBlocks wsX6_part := goodIn_r _ [7, 8, 9, 10, 11, 30, 31, 32, 33] (by decide +kernel) (by decide +kernel)
set_option maxRecDepth 20000 in
theorem gX3_inBlocks_X6_part : GoodIn wsX3_inBlocks (wsV RX3 126 RX6 yX6_part wsX6_part) := goodIn_app (goodIn_of _ (by decide +kernel)) ggX3_inBlocks_X6_part
set_option maxRecDepth 20000 in
theorem ggX3_accountedFor_X3_inBlocks : GoodIn wsX3_accountedFor wsX3_inBlocks := goodIn_r _ [7, 8, 9, 10, 11, 12, 13, 14, 15, 16, 17, 18, 19, 20, 21, 22, 23, 24, 25, 26, 27, 28, 29, 30, 31, 32, 33, 39, 40, 41, 42, 43, 44, 45] (by decide +kernel) (by decide +kernel)
set_option maxRecDepth 20000 in
theorem gX3_accountedFor_X3_inBlocks : GoodIn wsX3_accountedFor (wsV RX3 130 RX3 yX3_inBlocks wsX3_inBlocks) := goodIn_app (goodIn_of _ (by decide +kernel)) ggX3_accountedFor_X3_inBlocks
set_option maxRecDepth 20000 in
theorem ggX3_accountedFor_X6_part : GoodIn wsX3_accountedFor wsX6_part := goodIn_r _ [14, 15, 16, 17, 18, 42, 43, 44, 45] (by decide +kernel) (by decide +kernel)
set_option maxRecDepth 20000 in
theorem gX3_accountedFor_X6_part : GoodIn wsX3_accountedFor (wsV RX3 126 RX6 yX6_part wsX6_part) := goodIn_app (goodIn_of _ (by decide +kernel)) ggX3_accountedFor_X6_part
set_option maxRecDepth 20000 in
theorem ggX3_step_X3_light : GoodIn wsX3_step wsX3_light := goodIn_r _ [13, 6, 138, 139, 140, 141, 142, 143, 144, 145, 146, 147, 148, 149, 150, 151, 152] (by decide +kernel) (by decide +kernel)
set_option maxRecDepth 20000 in
theorem gX3_step_X3_light : GoodIn wsX3_step (wsV RX3 146 RX3 yX3_light wsX3_light) := goodIn_app (goodIn_of _ (by decide +kernel)) ggX3_step_X3_light
set_option maxRecDepth 20000 in
theorem ggX3_step_X3_flowThrough : GoodIn wsX3_step wsX3_flowThrough := goodIn_r _ [17, 18, 19, 20, 21, 22, 23, 24, 25, 26, 27, 28, 29, 30, 31, 32, 33, 34, 35, 36, 37, 38, 39, 40, 41, 42, 43, 44, 45, 46, 47, 48, 49, 50, 51, 52, 53, 54, 55, 56, 57, 58, 59, 60, 138, 139, 140, 141, 142, 143, 144, 145, 146, 147, 148, 149, 150, 151, 152, 162, 163, 164, 165, 166, 167, 168, 169, 170, 171, 172] (by decide +kernel) (by decide +kernel)
set_option maxRecDepth 20000 in
theorem gX3_step_X3_flowThrough : GoodIn wsX3_step (wsV RX3 150 RX3 yX3_flowThrough wsX3_flowThrough) := goodIn_app (goodIn_of _ (by decide +kernel)) ggX3_step_X3_flowThrough
set_option maxRecDepth 20000 in
theorem ggX3_step_X3_produce : GoodIn wsX3_step wsX3_produce := goodIn_r _ [64, 18, 65, 66, 21, 67, 23, 24, 25, 26, 68, 60, 40, 41, 30, 42, 32, 33, 27, 28, 29, 31, 34, 35, 36, 37, 38, 39, 43, 44, 45, 46, 47, 48, 49, 50, 51, 52, 53, 54, 55, 69, 70, 71, 72, 73, 74, 75, 76, 77, 78, 79, 80, 81, 82, 83, 84, 56, 57, 58, 59, 138, 139, 140, 141, 142, 143, 144, 145, 146, 147, 148, 149, 150, 151, 152, 153, 154, 155, 156, 157, 158, 159, 160, 161, 169, 170, 171, 172, 166, 167, 168] (by decide +kernel) (by decide +kernel)
set_option maxRecDepth 20000 in
theorem gX3_step_X3_produce : GoodIn wsX3_step (wsV RX3 153 RX3 yX3_produce wsX3_produce) := goodIn_app (goodIn_of _ (by decide +kernel)) ggX3_step_X3_produce
set_option maxRecDepth 20000 in
theorem ggX3_step_X3_drive : GoodIn wsX3_step wsX3_drive := goodIn_r _ [88, 89, 24, 25, 21, 26, 90, 138, 139, 140, 141, 142, 143, 144, 145, 146, 147, 148, 149, 150, 151, 152, 173, 174, 175, 176, 177, 178, 179, 180, 181, 182, 183] (by decide +kernel) (by decide +kernel)
set_option maxRecDepth 20000 in
theorem gX3_step_X3_drive : GoodIn wsX3_step (wsV RX3 157 RX3 yX3_drive wsX3_drive) := goodIn_app (goodIn_of _ (by decide +kernel)) ggX3_step_X3_drive
set_option maxRecDepth 20000 in
theorem ggX3_step_X3_warmTheTown : GoodIn wsX3_step wsX3_warmTheTown := goodIn_r _ [94, 68, 65, 66, 21, 67, 89, 24, 25, 26, 138, 139, 140, 141, 142, 143, 144, 145, 146, 147, 148, 149, 150, 151, 152, 169, 170, 171, 172, 173, 174, 175, 176, 177, 178] (by decide +kernel) (by decide +kernel)
set_option maxRecDepth 20000 in
theorem gX3_step_X3_warmTheTown : GoodIn wsX3_step (wsV RX3 161 RX3 yX3_warmTheTown wsX3_warmTheTown) := goodIn_app (goodIn_of _ (by decide +kernel)) ggX3_step_X3_warmTheTown
set_option maxRecDepth 20000 in
theorem ggX3_step_X3_spill : GoodIn wsX3_step wsX3_spill := goodIn_r _ [98, 68, 65, 66, 21, 67, 90, 23, 99, 100, 101, 12, 102, 103, 44, 45, 46, 47, 48, 104, 50, 51, 52, 53, 54, 55, 56, 57, 58, 59, 138, 139, 140, 141, 142, 143, 144, 145, 146, 147, 148, 149, 150, 151, 152, 169, 170, 171, 172, 179, 180, 181, 182, 183] (by decide +kernel) (by decide +kernel)
set_option maxRecDepth 20000 in
theorem gX3_step_X3_spill : GoodIn wsX3_step (wsV RX3 164 RX3 yX3_spill wsX3_spill) := goodIn_app (goodIn_of _ (by decide +kernel)) ggX3_step_X3_spill
set_option maxRecDepth 20000 in
theorem ggX3_step_X3_inject : GoodIn wsX3_step wsX3_inject := goodIn_r _ [108, 68, 24, 25, 21, 26, 18, 23, 99, 100, 101, 12, 102, 103, 44, 45, 46, 47, 48, 104, 50, 51, 52, 53, 54, 55, 27, 28, 29, 30, 31, 32, 33, 56, 57, 58, 59, 69, 70, 71, 72, 73, 74, 75, 76, 77, 153, 154, 155, 156, 157, 158, 159, 160, 161, 138, 139, 140, 141, 142, 143, 144, 145, 146, 147, 148, 149, 150, 151, 152, 169, 170, 171, 172, 166, 167, 168] (by decide +kernel) (by decide +kernel)
set_option maxRecDepth 20000 in
theorem gX3_step_X3_inject : GoodIn wsX3_step (wsV RX3 167 RX3 yX3_inject wsX3_inject) := goodIn_app (goodIn_of _ (by decide +kernel)) ggX3_step_X3_inject
set_option maxRecDepth 20000 in
theorem ggX3_step_X3_letFlow : GoodIn wsX3_step wsX3_letFlow := goodIn_r _ [112, 18, 65, 66, 21, 67, 23, 90, 27, 28, 29, 30, 31, 32, 33, 34, 35, 36, 37, 38, 25, 26, 39, 40, 41, 42, 43, 44, 45, 46, 47, 48, 49, 50, 51, 52, 53, 54, 55, 56, 57, 58, 59, 113, 114, 115, 116, 117, 118, 119, 120, 121, 122, 123, 138, 139, 140, 141, 142, 143, 144, 145, 146, 147, 148, 149, 150, 151, 152, 184, 185, 186, 187, 188, 189, 190, 179, 180, 181, 182, 183, 169, 170, 171, 172, 166, 167, 168] (by decide +kernel) (by decide +kernel)
set_option maxRecDepth 20000 in
theorem gX3_step_X3_letFlow : GoodIn wsX3_step (wsV RX3 171 RX3 yX3_letFlow wsX3_letFlow) := goodIn_app (goodIn_of _ (by decide +kernel)) ggX3_step_X3_letFlow
set_option maxRecDepth 20000 in
theorem ggX3_step_X3_shareOut : GoodIn wsX3_step wsX3_shareOut := goodIn_r _ [127, 89, 128, 129, 130, 131, 12, 132, 133, 18, 138, 139, 140, 141, 142, 143, 144, 145, 146, 147, 148, 149, 150, 151, 152, 173, 174, 175, 176, 177, 178, 166, 167, 168] (by decide +kernel) (by decide +kernel)
set_option maxRecDepth 20000 in
theorem gX3_step_X3_shareOut : GoodIn wsX3_step (wsV RX3 174 RX3 yX3_shareOut wsX3_shareOut) := goodIn_app (goodIn_of _ (by decide +kernel)) ggX3_step_X3_shareOut
set_option maxRecDepth 20000 in
theorem ggX3_step_X3_payForLacks : GoodIn wsX3_step wsX3_payForLacks := goodIn_r _ [137, 7, 8, 18, 128, 138, 139, 140, 141, 142, 143, 144, 145, 146, 147, 148, 149, 150, 151, 152, 184, 185, 186, 187, 188, 189, 190, 166, 167, 168] (by decide +kernel) (by decide +kernel)
set_option maxRecDepth 20000 in
theorem gX3_step_X3_payForLacks : GoodIn wsX3_step (wsV RX3 177 RX3 yX3_payForLacks wsX3_payForLacks) := goodIn_app (goodIn_of _ (by decide +kernel)) ggX3_step_X3_payForLacks
set_option maxRecDepth 20000 in
theorem ggX3_flowThrough_X0_pressure : GoodIn wsX3_flowThrough wsX0_pressure := goodIn_r _ [14, 15, 16, 63, 64, 65, 66, 67, 68, 69] (by decide +kernel) (by decide +kernel)
set_option maxRecDepth 20000 in
theorem gX3_flowThrough_X0_pressure : GoodIn wsX3_flowThrough (wsV RX3 186 RX0 yX0_pressure wsX0_pressure) := goodIn_app (goodIn_of _ (by decide +kernel)) ggX3_flowThrough_X0_pressure
set_option maxRecDepth 20000 in
theorem ggX3_flowThrough_X0_take : GoodIn wsX3_flowThrough wsX0_take := goodIn_r _ [20, 16, 21, 8, 4, 9, 22, 23, 24, 13, 25, 15, 26, 27, 28, 29, 30, 31, 32, 33, 34, 35, 36, 37, 38, 63, 64, 65, 66, 67, 68, 69] (by decide +kernel) (by decide +kernel)
set_option maxRecDepth 20000 in
theorem gX3_flowThrough_X0_take : GoodIn wsX3_flowThrough (wsV RX3 197 RX0 yX0_take wsX0_take) := goodIn_app (goodIn_of _ (by decide +kernel)) ggX3_flowThrough_X0_take
set_option maxRecDepth 20000 in
theorem ggX3_flowThrough_X6_add : GoodIn wsX3_flowThrough wsX6_add := goodIn_r _ [42, 31, 36, 37, 38, 66, 67, 68, 69] (by decide +kernel) (by decide +kernel)
set_option maxRecDepth 20000 in
theorem gX3_flowThrough_X6_add : GoodIn wsX3_flowThrough (wsV RX3 201 RX6 yX6_add wsX6_add) := goodIn_app (goodIn_of _ (by decide +kernel)) ggX3_flowThrough_X6_add
set_option maxRecDepth 20000 in
theorem ggX3_flowThrough_X0_warmth : GoodIn wsX3_flowThrough wsX0_warmth := goodIn_r _ [25, 15, 16, 63, 64, 65, 66, 67, 68, 69] (by decide +kernel) (by decide +kernel)
set_option maxRecDepth 20000 in
theorem gX3_flowThrough_X0_warmth : GoodIn wsX3_flowThrough (wsV RX3 210 RX0 yX0_warmth wsX0_warmth) := goodIn_app (goodIn_of _ (by decide +kernel)) ggX3_flowThrough_X0_warmth
set_option maxRecDepth 20000 in
theorem ggX3_produce_X0_warmth : GoodIn wsX3_produce wsX0_warmth := goodIn_r _ [15, 16, 17, 89, 90, 91, 85, 86, 87, 88] (by decide +kernel) (by decide +kernel)
set_option maxRecDepth 20000 in
theorem gX3_produce_X0_warmth : GoodIn wsX3_produce (wsV RX3 210 RX0 yX0_warmth wsX0_warmth) := goodIn_app (goodIn_of _ (by decide +kernel)) ggX3_produce_X0_warmth
set_option maxRecDepth 20000 in
theorem ggX3_produce_X0_pressure : GoodIn wsX3_produce wsX0_pressure := goodIn_r _ [21, 16, 17, 89, 90, 91, 85, 86, 87, 88] (by decide +kernel) (by decide +kernel)
set_option maxRecDepth 20000 in
theorem gX3_produce_X0_pressure : GoodIn wsX3_produce (wsV RX3 186 RX0 yX0_pressure wsX0_pressure) := goodIn_app (goodIn_of _ (by decide +kernel)) ggX3_produce_X0_pressure
set_option maxRecDepth 20000 in
theorem ggX3_produce_X0_take : GoodIn wsX3_produce wsX0_take := goodIn_r _ [25, 17, 26, 8, 4, 9, 27, 12, 13, 14, 15, 16, 28, 29, 30, 31, 32, 33, 34, 35, 36, 37, 38, 39, 40, 89, 90, 91, 85, 86, 87, 88] (by decide +kernel) (by decide +kernel)
set_option maxRecDepth 20000 in
theorem gX3_produce_X0_take : GoodIn wsX3_produce (wsV RX3 197 RX0 yX0_take wsX0_take) := goodIn_app (goodIn_of _ (by decide +kernel)) ggX3_produce_X0_take
set_option maxRecDepth 20000 in
theorem ggX3_produce_X7_note : GoodIn wsX3_produce wsX7_note := goodIn_r _ [45, 46, 47, 48, 49, 85, 86, 87, 88, 76, 77, 78, 79, 80, 81, 82, 83, 84] (by decide +kernel) (by decide +kernel)
set_option maxRecDepth 20000 in
theorem gX3_produce_X7_note : GoodIn wsX3_produce (wsV RX3 229 RX7 yX7_note wsX7_note) := goodIn_app (goodIn_of _ (by decide +kernel)) ggX3_produce_X7_note
set_option maxRecDepth 20000 in
theorem ggX3_produce_X7_growCrust : GoodIn wsX3_produce wsX7_growCrust := goodIn_r _ [53, 54, 55, 56, 8, 4, 9, 76, 77, 78, 79, 80, 81, 82, 83, 84] (by decide +kernel) (by decide +kernel)
set_option maxRecDepth 20000 in
theorem gX3_produce_X7_growCrust : GoodIn wsX3_produce (wsV RX3 236 RX7 yX7_growCrust wsX7_growCrust) := goodIn_app (goodIn_of _ (by decide +kernel)) ggX3_produce_X7_growCrust
set_option maxRecDepth 20000 in
theorem ggX3_produce_X6_add : GoodIn wsX3_produce wsX6_add := goodIn_r _ [60, 33, 38, 39, 40, 85, 86, 87, 88] (by decide +kernel) (by decide +kernel)
set_option maxRecDepth 20000 in
theorem gX3_produce_X6_add : GoodIn wsX3_produce (wsV RX3 201 RX6 yX6_add wsX6_add) := goodIn_app (goodIn_of _ (by decide +kernel)) ggX3_produce_X6_add
set_option maxRecDepth 20000 in
theorem ggX3_spill_X3_drain : GoodIn wsX3_spill wsX3_drain := goodIn_r _ [12, 7, 1, 13, 14, 15, 16, 17, 18, 19, 20, 21, 22, 23, 24, 25, 30, 31, 32, 33, 34, 35, 36, 37, 38, 39, 40, 41, 42, 43, 44, 45, 46, 47, 48] (by decide +kernel) (by decide +kernel)
set_option maxRecDepth 20000 in
theorem gX3_spill_X3_drain : GoodIn wsX3_spill (wsV RX3 263 RX3 yX3_drain wsX3_drain) := goodIn_app (goodIn_of _ (by decide +kernel)) ggX3_spill_X3_drain
set_option maxRecDepth 20000 in
theorem ggX3_spill_X6_add : GoodIn wsX3_spill wsX6_add := goodIn_r _ [29, 18, 23, 24, 25, 45, 46, 47, 48] (by decide +kernel) (by decide +kernel)
set_option maxRecDepth 20000 in
theorem gX3_spill_X6_add : GoodIn wsX3_spill (wsV RX3 201 RX6 yX6_add wsX6_add) := goodIn_app (goodIn_of _ (by decide +kernel)) ggX3_spill_X6_add
set_option maxRecDepth 20000 in
theorem ggX3_drain_X6_shareOf : GoodIn wsX3_drain wsX6_shareOf := goodIn_r _ [7, 8, 31, 32, 33, 34] (by decide +kernel) (by decide +kernel)
set_option maxRecDepth 20000 in
theorem gX3_drain_X6_shareOf : GoodIn wsX3_drain (wsV RX3 266 RX6 yX6_shareOf wsX6_shareOf) := goodIn_app (goodIn_of _ (by decide +kernel)) ggX3_drain_X6_shareOf
set_option maxRecDepth 20000 in
theorem ggX3_drain_X6_remove : GoodIn wsX3_drain wsX6_remove := goodIn_r _ [12, 8, 13, 14, 15, 31, 32, 33, 34] (by decide +kernel) (by decide +kernel)
set_option maxRecDepth 20000 in
theorem gX3_drain_X6_remove : GoodIn wsX3_drain (wsV RX3 272 RX6 yX6_remove wsX6_remove) := goodIn_app (goodIn_of _ (by decide +kernel)) ggX3_drain_X6_remove
set_option maxRecDepth 20000 in
theorem ggX3_inject_X3_drain : GoodIn wsX3_inject wsX3_drain := goodIn_r _ [12, 7, 1, 13, 14, 15, 16, 17, 18, 19, 20, 21, 22, 23, 24, 25, 55, 56, 57, 58, 59, 60, 61, 62, 63, 64, 65, 66, 67, 68, 69, 70, 71, 72, 73] (by decide +kernel) (by decide +kernel)
set_option maxRecDepth 20000 in
theorem gX3_inject_X3_drain : GoodIn wsX3_inject (wsV RX3 263 RX3 yX3_drain wsX3_drain) := goodIn_app (goodIn_of _ (by decide +kernel)) ggX3_inject_X3_drain
set_option maxRecDepth 20000 in
theorem ggX3_inject_X0_pressure : GoodIn wsX3_inject wsX0_pressure := goodIn_r _ [30, 31, 32, 74, 75, 76, 70, 71, 72, 73] (by decide +kernel) (by decide +kernel)
set_option maxRecDepth 20000 in
theorem gX3_inject_X0_pressure : GoodIn wsX3_inject (wsV RX3 186 RX0 yX0_pressure wsX0_pressure) := goodIn_app (goodIn_of _ (by decide +kernel)) ggX3_inject_X0_pressure
set_option maxRecDepth 20000 in
theorem ggX3_inject_X6_add : GoodIn wsX3_inject wsX6_add := goodIn_r _ [36, 18, 23, 24, 25, 70, 71, 72, 73] (by decide +kernel) (by decide +kernel)
set_option maxRecDepth 20000 in
theorem gX3_inject_X6_add : GoodIn wsX3_inject (wsV RX3 201 RX6 yX6_add wsX6_add) := goodIn_app (goodIn_of _ (by decide +kernel)) ggX3_inject_X6_add
set_option maxRecDepth 20000 in
theorem ggX3_inject_X7_note : GoodIn wsX3_inject wsX7_note := goodIn_r _ [41, 42, 43, 44, 45, 70, 71, 72, 73, 46, 47, 48, 49, 50, 51, 52, 53, 54] (by decide +kernel) (by decide +kernel)
set_option maxRecDepth 20000 in
theorem gX3_inject_X7_note : GoodIn wsX3_inject (wsV RX3 229 RX7 yX7_note wsX7_note) := goodIn_app (goodIn_of _ (by decide +kernel)) ggX3_inject_X7_note
set_option maxRecDepth 20000 in
theorem ggX3_letFlow_X0_pressure : GoodIn wsX3_letFlow wsX0_pressure := goodIn_r _ [12, 13, 14, 85, 86, 87, 81, 82, 83, 84] (by decide +kernel) (by decide +kernel)
set_option maxRecDepth 20000 in
theorem gX3_letFlow_X0_pressure : GoodIn wsX3_letFlow (wsV RX3 186 RX0 yX0_pressure wsX0_pressure) := goodIn_app (goodIn_of _ (by decide +kernel)) ggX3_letFlow_X0_pressure
set_option maxRecDepth 20000 in
theorem ggX3_letFlow_X0_take : GoodIn wsX3_letFlow wsX0_take := goodIn_r _ [18, 14, 19, 20, 4, 21, 22, 23, 24, 11, 25, 13, 26, 27, 28, 29, 30, 31, 32, 33, 34, 35, 36, 37, 38, 85, 86, 87, 81, 82, 83, 84] (by decide +kernel) (by decide +kernel)
set_option maxRecDepth 20000 in
theorem gX3_letFlow_X0_take : GoodIn wsX3_letFlow (wsV RX3 197 RX0 yX0_take wsX0_take) := goodIn_app (goodIn_of _ (by decide +kernel)) ggX3_letFlow_X0_take
set_option maxRecDepth 20000 in
theorem ggX3_letFlow_X6_add : GoodIn wsX3_letFlow wsX6_add := goodIn_r _ [42, 31, 36, 37, 38, 81, 82, 83, 84] (by decide +kernel) (by decide +kernel)
set_option maxRecDepth 20000 in
theorem gX3_letFlow_X6_add : GoodIn wsX3_letFlow (wsV RX3 201 RX6 yX6_add wsX6_add) := goodIn_app (goodIn_of _ (by decide +kernel)) ggX3_letFlow_X6_add
set_option maxRecDepth 20000 in
theorem ggX3_letFlow_X5_note : GoodIn wsX3_letFlow wsX5_note := goodIn_r _ [47, 48, 49, 50, 3, 4, 5, 51, 52, 53, 69, 70, 71, 72, 73, 74, 75] (by decide +kernel) (by decide +kernel)
set_option maxRecDepth 20000 in
theorem gX3_letFlow_X5_note : GoodIn wsX3_letFlow (wsV RX3 279 RX5 yX5_note wsX5_note) := goodIn_app (goodIn_of _ (by decide +kernel)) ggX3_letFlow_X5_note
set_option maxRecDepth 20000 in
theorem ggX3_shareOut_X3_shareOf : GoodIn wsX3_shareOut wsX3_shareOf := goodIn_r _ [7, 8, 9, 10, 11, 12, 13, 14, 15, 16, 17, 18, 19, 20, 21, 22, 23, 24, 31, 32, 33] (by decide +kernel) (by decide +kernel)
set_option maxRecDepth 20000 in
theorem gX3_shareOut_X3_shareOf : GoodIn wsX3_shareOut (wsV RX3 281 RX3 yX3_shareOf wsX3_shareOf) := goodIn_app (goodIn_of _ (by decide +kernel)) ggX3_shareOut_X3_shareOf
set_option maxRecDepth 20000 in
theorem ggX8_init_X3_init : GoodIn wsX8_init wsX3_init := goodIn_r _ [11, 12, 2, 3, 13, 14, 15, 16, 17, 18, 19, 20, 21, 22, 23, 24, 25, 26, 27, 28, 29, 30, 31, 32, 33, 34, 35, 36, 37, 38, 39, 40, 41, 42, 43, 44, 45, 46, 47, 48, 49, 50, 51, 52, 53, 54, 55, 56, 57, 58, 59, 60, 61, 62, 63, 64, 65, 66, 67, 68, 69, 70, 71, 72, 73, 74, 75, 76, 77, 78, 79, 80, 81, 82, 83, 84, 85, 86, 87, 88, 91, 92, 93, 94, 95, 96, 97, 98, 99, 100, 101, 102, 103, 104, 105, 106, 107, 108, 109, 110, 111, 112, 113, 114, 115, 116, 117, 118, 119, 120, 121, 122, 123, 124, 125, 126, 127, 128] (by decide +kernel) (by decide +kernel)
set_option maxRecDepth 20000 in
theorem gX8_init_X3_init : GoodIn wsX8_init (wsX3_init) := ggX8_init_X3_init
set_option maxRecDepth 20000 in
theorem ggX8_block_X8_needRange : GoodIn wsX8_block wsX8_needRange := goodIn_ca (goodIn_r _ [5, 6, 7] (by decide +kernel) (by decide +kernel)) (goodIn_sub (fun _ h => List.mem_cons_of_mem _ (List.mem_append_left _ (List.mem_append_right _ h))) (by decide +kernel))
set_option maxRecDepth 20000 in
theorem gX8_block_X8_needRange : GoodIn wsX8_block (va_wsS RX8 19 yX8_needRange wsX8_needRange) := goodIn_app (goodIn_of _ (by decide +kernel)) ggX8_block_X8_needRange
set_option maxRecDepth 20000 in
theorem ggX8_block_X8_needRoom : GoodIn wsX8_block wsX8_needRoom := goodIn_ca (goodIn_r _ [10, 11, 12] (by decide +kernel) (by decide +kernel)) (goodIn_sub (fun _ h => List.mem_cons_of_mem _ (List.mem_append_right _ h)) (by decide +kernel))
set_option maxRecDepth 20000 in
theorem gX8_block_X8_needRoom : GoodIn wsX8_block (va_wsS RX8 27 yX8_needRoom wsX8_needRoom) := goodIn_app (goodIn_of _ (by decide +kernel)) ggX8_block_X8_needRoom
set_option maxRecDepth 20000 in
theorem ggX8_block_X6_add : GoodIn wsX8_block wsX6_add := goodIn_r _ [17, 18, 19, 20, 21, 42, 43, 44, 45] (by decide +kernel) (by decide +kernel)
set_option maxRecDepth 20000 in
theorem gX8_block_X6_add : GoodIn wsX8_block (wsV RX8 67 RX6 yX6_add wsX6_add) := goodIn_app (goodIn_of _ (by decide +kernel)) ggX8_block_X6_add
set_option maxRecDepth 20000 in
theorem ggX8_face_X8_needIndex : GoodIn wsX8_face wsX8_needIndex := goodIn_ca (goodIn_r _ [7, 8, 9] (by decide +kernel) (by decide +kernel)) (goodIn_sub (fun _ h => List.mem_cons_of_mem _ (List.mem_append_left _ (List.mem_append_right _ h))) (by decide +kernel))
set_option maxRecDepth 20000 in
theorem gX8_face_X8_needIndex : GoodIn wsX8_face (va_wsS RX8 71 yX8_needIndex wsX8_needIndex) := goodIn_app (goodIn_of _ (by decide +kernel)) ggX8_face_X8_needIndex
set_option maxRecDepth 20000 in
theorem ggX8_face_X8_needRange : GoodIn wsX8_face wsX8_needRange := goodIn_ca (goodIn_r _ [12, 1, 2] (by decide +kernel) (by decide +kernel)) (goodIn_sub (fun _ h => List.mem_cons_of_mem _ (List.mem_append_left _ (List.mem_append_left _ (List.mem_append_right _ h)))) (by decide +kernel))
set_option maxRecDepth 20000 in
theorem gX8_face_X8_needRange : GoodIn wsX8_face (va_wsS RX8 19 yX8_needRange wsX8_needRange) := goodIn_app (goodIn_of _ (by decide +kernel)) ggX8_face_X8_needRange
set_option maxRecDepth 20000 in
theorem ggX8_face_X8_needRoom : GoodIn wsX8_face wsX8_needRoom := goodIn_ca (goodIn_r _ [15, 16, 17] (by decide +kernel) (by decide +kernel)) (goodIn_sub (fun _ h => List.mem_cons_of_mem _ (List.mem_append_right _ h)) (by decide +kernel))
set_option maxRecDepth 20000 in
theorem gX8_face_X8_needRoom : GoodIn wsX8_face (va_wsS RX8 27 yX8_needRoom wsX8_needRoom) := goodIn_app (goodIn_of _ (by decide +kernel)) ggX8_face_X8_needRoom
set_option maxRecDepth 20000 in
theorem ggX8_well_X8_needIndex : GoodIn wsX8_well wsX8_needIndex := goodIn_ca (goodIn_r _ [5, 6, 7] (by decide +kernel) (by decide +kernel)) (goodIn_sub (fun _ h => List.mem_cons_of_mem _ (List.mem_append_left _ (List.mem_append_right _ h))) (by decide +kernel))
set_option maxRecDepth 20000 in
theorem gX8_well_X8_needIndex : GoodIn wsX8_well (va_wsS RX8 71 yX8_needIndex wsX8_needIndex) := goodIn_app (goodIn_of _ (by decide +kernel)) ggX8_well_X8_needIndex
set_option maxRecDepth 20000 in
theorem ggX8_well_X8_needRoom : GoodIn wsX8_well wsX8_needRoom := goodIn_ca (goodIn_r _ [10, 11, 12] (by decide +kernel) (by decide +kernel)) (goodIn_sub (fun _ h => List.mem_cons_of_mem _ (List.mem_append_right _ h)) (by decide +kernel))
set_option maxRecDepth 20000 in
theorem gX8_well_X8_needRoom : GoodIn wsX8_well (va_wsS RX8 27 yX8_needRoom wsX8_needRoom) := goodIn_app (goodIn_of _ (by decide +kernel)) ggX8_well_X8_needRoom
set_option maxRecDepth 20000 in
theorem ggX8_spring_X8_needIndex : GoodIn wsX8_spring wsX8_needIndex := goodIn_ca (goodIn_r _ [5, 6, 7] (by decide +kernel) (by decide +kernel)) (goodIn_sub (fun _ h => List.mem_cons_of_mem _ (List.mem_append_left _ (List.mem_append_left _ (List.mem_append_right _ h)))) (by decide +kernel))
set_option maxRecDepth 20000 in
theorem gX8_spring_X8_needIndex : GoodIn wsX8_spring (va_wsS RX8 71 yX8_needIndex wsX8_needIndex) := goodIn_app (goodIn_of _ (by decide +kernel)) ggX8_spring_X8_needIndex
set_option maxRecDepth 20000 in
theorem ggX8_spring_X8_needRange : GoodIn wsX8_spring wsX8_needRange := goodIn_ca (goodIn_r _ [10, 11, 12] (by decide +kernel) (by decide +kernel)) (goodIn_sub (fun _ h => List.mem_cons_of_mem _ (List.mem_append_left _ (List.mem_append_right _ h))) (by decide +kernel))
set_option maxRecDepth 20000 in
theorem gX8_spring_X8_needRange : GoodIn wsX8_spring (va_wsS RX8 19 yX8_needRange wsX8_needRange) := goodIn_app (goodIn_of _ (by decide +kernel)) ggX8_spring_X8_needRange
set_option maxRecDepth 20000 in
theorem ggX8_spring_X8_needRoom : GoodIn wsX8_spring wsX8_needRoom := goodIn_ca (goodIn_r _ [15, 16, 17] (by decide +kernel) (by decide +kernel)) (goodIn_sub (fun _ h => List.mem_cons_of_mem _ (List.mem_append_right _ h)) (by decide +kernel))
set_option maxRecDepth 20000 in
theorem gX8_spring_X8_needRoom : GoodIn wsX8_spring (va_wsS RX8 27 yX8_needRoom wsX8_needRoom) := goodIn_app (goodIn_of _ (by decide +kernel)) ggX8_spring_X8_needRoom
set_option maxRecDepth 20000 in
theorem ggX8_valve_X8_needIndex : GoodIn wsX8_valve wsX8_needIndex := goodIn_ca (goodIn_r _ [5, 6, 7] (by decide +kernel) (by decide +kernel)) (goodIn_sub (fun _ h => List.mem_cons_of_mem _ (List.mem_append_left _ (List.mem_append_right _ h))) (by decide +kernel))
set_option maxRecDepth 20000 in
theorem gX8_valve_X8_needIndex : GoodIn wsX8_valve (va_wsS RX8 71 yX8_needIndex wsX8_needIndex) := goodIn_app (goodIn_of _ (by decide +kernel)) ggX8_valve_X8_needIndex
set_option maxRecDepth 20000 in
theorem ggX8_valve_X8_needRange : GoodIn wsX8_valve wsX8_needRange := goodIn_ca (goodIn_r _ [10, 11, 12] (by decide +kernel) (by decide +kernel)) (goodIn_sub (fun _ h => List.mem_cons_of_mem _ (List.mem_append_right _ h)) (by decide +kernel))
set_option maxRecDepth 20000 in
theorem gX8_valve_X8_needRange : GoodIn wsX8_valve (va_wsS RX8 19 yX8_needRange wsX8_needRange) := goodIn_app (goodIn_of _ (by decide +kernel)) ggX8_valve_X8_needRange
set_option maxRecDepth 20000 in
theorem ggX8_trace_X8_needIndex : GoodIn wsX8_trace wsX8_needIndex := goodIn_ca (goodIn_r _ [7, 8, 9] (by decide +kernel) (by decide +kernel)) (goodIn_sub (fun _ h => List.mem_cons_of_mem _ (List.mem_append_left _ (List.mem_append_right _ h))) (by decide +kernel))
set_option maxRecDepth 20000 in
theorem gX8_trace_X8_needIndex : GoodIn wsX8_trace (va_wsS RX8 71 yX8_needIndex wsX8_needIndex) := goodIn_app (goodIn_of _ (by decide +kernel)) ggX8_trace_X8_needIndex
set_option maxRecDepth 20000 in
theorem ggX8_trace_X8_needRange : GoodIn wsX8_trace wsX8_needRange := goodIn_ca (goodIn_r _ [12, 13, 14] (by decide +kernel) (by decide +kernel)) (goodIn_sub (fun _ h => List.mem_cons_of_mem _ (List.mem_append_right _ h)) (by decide +kernel))
set_option maxRecDepth 20000 in
theorem gX8_trace_X8_needRange : GoodIn wsX8_trace (va_wsS RX8 19 yX8_needRange wsX8_needRange) := goodIn_app (goodIn_of _ (by decide +kernel)) ggX8_trace_X8_needRange
set_option maxRecDepth 20000 in
theorem ggX8_clean_X8_needIndex : GoodIn wsX8_clean wsX8_needIndex := goodIn_ca (goodIn_r _ [7, 8, 9] (by decide +kernel) (by decide +kernel)) (goodIn_sub (fun _ h => List.mem_cons_of_mem _ (List.mem_append_right _ h)) (by decide +kernel))
set_option maxRecDepth 20000 in
theorem gX8_clean_X8_needIndex : GoodIn wsX8_clean (va_wsS RX8 71 yX8_needIndex wsX8_needIndex) := goodIn_app (goodIn_of _ (by decide +kernel)) ggX8_clean_X8_needIndex
set_option maxRecDepth 20000 in
theorem ggX8_turbine_X8_needRange : GoodIn wsX8_turbine wsX8_needRange := goodIn_ca (goodIn_r _ [5, 6, 7] (by decide +kernel) (by decide +kernel)) (goodIn_sub (fun _ h => List.mem_cons_of_mem _ (List.mem_append_right _ h)) (by decide +kernel))
set_option maxRecDepth 20000 in
theorem gX8_turbine_X8_needRange : GoodIn wsX8_turbine (va_wsS RX8 19 yX8_needRange wsX8_needRange) := goodIn_app (goodIn_of _ (by decide +kernel)) ggX8_turbine_X8_needRange
set_option maxRecDepth 20000 in
theorem ggX8_town_X8_needRange : GoodIn wsX8_town wsX8_needRange := goodIn_ca (goodIn_r _ [5, 6, 7] (by decide +kernel) (by decide +kernel)) (goodIn_sub (fun _ h => List.mem_cons_of_mem _ (List.mem_append_right _ h)) (by decide +kernel))
set_option maxRecDepth 20000 in
theorem gX8_town_X8_needRange : GoodIn wsX8_town (va_wsS RX8 19 yX8_needRange wsX8_needRange) := goodIn_app (goodIn_of _ (by decide +kernel)) ggX8_town_X8_needRange
set_option maxRecDepth 20000 in
theorem ggX8_run_X8_needRange : GoodIn wsX8_run wsX8_needRange := goodIn_ca (goodIn_r _ [5, 6, 7] (by decide +kernel) (by decide +kernel)) (goodIn_sub (fun _ h => List.mem_cons_of_mem _ (List.mem_append_right _ h)) (by decide +kernel))
set_option maxRecDepth 20000 in
theorem gX8_run_X8_needRange : GoodIn wsX8_run (va_wsS RX8 19 yX8_needRange wsX8_needRange) := goodIn_app (goodIn_of _ (by decide +kernel)) ggX8_run_X8_needRange
set_option maxRecDepth 20000 in
theorem ggX8_run_X8_powerIn : GoodIn wsX8_run wsX8_powerIn := goodIn_r _ [10, 11, 12, 13, 14, 15, 16, 17, 18, 19, 20, 21, 22, 23, 24, 25, 26, 27, 28, 29, 30, 31, 32, 33, 34, 35, 36, 37, 38, 39, 40, 41, 42, 43, 44, 45, 46, 47, 48, 49, 50, 51, 52, 53, 54, 55, 56, 57, 58, 59, 60, 61, 62, 63, 64, 65, 66, 67, 68, 69, 70, 71, 72, 73, 74, 75, 76, 77, 78, 79, 80, 81, 82, 83, 84, 85, 86, 87, 88, 89, 90, 91, 92, 93, 94, 95, 96, 97, 98, 99, 100, 101, 102, 103, 104, 105, 106, 107, 108, 109, 110, 111, 112, 113, 114, 115, 116, 117, 118, 119, 120, 121, 122, 123, 124, 125, 126, 127, 128, 129, 130, 131, 132, 133, 134, 135, 136, 137, 138, 139, 140, 141, 142, 143, 144, 145, 146, 147, 148, 149, 150, 151, 154, 155, 156, 157, 158, 159, 160, 161, 162, 163, 164, 165, 166, 167, 168, 169, 170, 171, 172, 173, 174, 175, 176, 177, 178, 179, 180, 181, 182, 183, 184, 185, 186, 187, 188, 189, 190, 191, 192, 193, 194, 195, 196, 197, 198, 199, 200, 201, 202, 203, 204, 205, 206] (by decide +kernel) (by decide +kernel)
set_option maxRecDepth 20000 in
theorem gX8_run_X8_powerIn : GoodIn wsX8_run (va_wsS RX8 169 yX8_powerIn wsX8_powerIn) := goodIn_app (goodIn_of _ (by decide +kernel)) ggX8_run_X8_powerIn
set_option maxRecDepth 20000 in
theorem ggX8_ofBlock_X8_needIndex : GoodIn wsX8_ofBlock wsX8_needIndex := goodIn_ca (goodIn_r _ [5, 6, 7] (by decide +kernel) (by decide +kernel)) (goodIn_sub (fun _ h => List.mem_cons_of_mem _ (List.mem_append_left _ (List.mem_append_right _ h))) (by decide +kernel))
set_option maxRecDepth 20000 in
theorem gX8_ofBlock_X8_needIndex : GoodIn wsX8_ofBlock (va_wsS RX8 71 yX8_needIndex wsX8_needIndex) := goodIn_app (goodIn_of _ (by decide +kernel)) ggX8_ofBlock_X8_needIndex
set_option maxRecDepth 20000 in
theorem ggX8_ofBlock_X8_needRange : GoodIn wsX8_ofBlock wsX8_needRange := goodIn_ca (goodIn_r _ [10, 11, 12] (by decide +kernel) (by decide +kernel)) (goodIn_sub (fun _ h => List.mem_cons_of_mem _ (List.mem_append_right _ h)) (by decide +kernel))
set_option maxRecDepth 20000 in
theorem gX8_ofBlock_X8_needRange : GoodIn wsX8_ofBlock (va_wsS RX8 19 yX8_needRange wsX8_needRange) := goodIn_app (goodIn_of _ (by decide +kernel)) ggX8_ofBlock_X8_needRange
set_option maxRecDepth 20000 in
theorem ggX8_ofBlock_X0_pressure : GoodIn wsX8_ofBlock wsX0_pressure := goodIn_r _ [17, 18, 19, 50, 51, 52, 53, 54, 55, 56] (by decide +kernel) (by decide +kernel)
set_option maxRecDepth 20000 in
theorem gX8_ofBlock_X0_pressure : GoodIn wsX8_ofBlock (wsV RX8 173 RX0 yX0_pressure wsX0_pressure) := goodIn_app (goodIn_of _ (by decide +kernel)) ggX8_ofBlock_X0_pressure
set_option maxRecDepth 20000 in
theorem ggX8_ofBlock_X0_warmth : GoodIn wsX8_ofBlock wsX0_warmth := goodIn_r _ [23, 18, 19, 50, 51, 52, 53, 54, 55, 56] (by decide +kernel) (by decide +kernel)
set_option maxRecDepth 20000 in
theorem gX8_ofBlock_X0_warmth : GoodIn wsX8_ofBlock (wsV RX8 177 RX0 yX0_warmth wsX0_warmth) := goodIn_app (goodIn_of _ (by decide +kernel)) ggX8_ofBlock_X0_warmth
set_option maxRecDepth 20000 in
theorem ggX8_ofBlock_X6_part : GoodIn wsX8_ofBlock wsX6_part := goodIn_r _ [28, 29, 30, 31, 32, 53, 54, 55, 56] (by decide +kernel) (by decide +kernel)
set_option maxRecDepth 20000 in
theorem gX8_ofBlock_X6_part : GoodIn wsX8_ofBlock (wsV RX8 180 RX6 yX6_part wsX6_part) := goodIn_app (goodIn_of _ (by decide +kernel)) ggX8_ofBlock_X6_part
set_option maxRecDepth 20000 in
theorem ggX8_ofWell_X8_needIndex : GoodIn wsX8_ofWell wsX8_needIndex := goodIn_ca (goodIn_r _ [5, 6, 7] (by decide +kernel) (by decide +kernel)) (goodIn_sub (fun _ h => List.mem_cons_of_mem _ (List.mem_append_left _ (List.mem_append_right _ h))) (by decide +kernel))
set_option maxRecDepth 20000 in
theorem gX8_ofWell_X8_needIndex : GoodIn wsX8_ofWell (va_wsS RX8 71 yX8_needIndex wsX8_needIndex) := goodIn_app (goodIn_of _ (by decide +kernel)) ggX8_ofWell_X8_needIndex
set_option maxRecDepth 20000 in
theorem ggX8_ofWell_X8_needRange : GoodIn wsX8_ofWell wsX8_needRange := goodIn_ca (goodIn_r _ [10, 11, 12] (by decide +kernel) (by decide +kernel)) (goodIn_sub (fun _ h => List.mem_cons_of_mem _ (List.mem_append_right _ h)) (by decide +kernel))
set_option maxRecDepth 20000 in
theorem gX8_ofWell_X8_needRange : GoodIn wsX8_ofWell (va_wsS RX8 19 yX8_needRange wsX8_needRange) := goodIn_app (goodIn_of _ (by decide +kernel)) ggX8_ofWell_X8_needRange
set_option maxRecDepth 20000 in
theorem ggX8_ofSpring_X8_needIndex : GoodIn wsX8_ofSpring wsX8_needIndex := goodIn_ca (goodIn_r _ [5, 6, 7] (by decide +kernel) (by decide +kernel)) (goodIn_sub (fun _ h => List.mem_cons_of_mem _ (List.mem_append_left _ (List.mem_append_right _ h))) (by decide +kernel))
set_option maxRecDepth 20000 in
theorem gX8_ofSpring_X8_needIndex : GoodIn wsX8_ofSpring (va_wsS RX8 71 yX8_needIndex wsX8_needIndex) := goodIn_app (goodIn_of _ (by decide +kernel)) ggX8_ofSpring_X8_needIndex
set_option maxRecDepth 20000 in
theorem ggX8_ofSpring_X8_needRange : GoodIn wsX8_ofSpring wsX8_needRange := goodIn_ca (goodIn_r _ [10, 11, 12] (by decide +kernel) (by decide +kernel)) (goodIn_sub (fun _ h => List.mem_cons_of_mem _ (List.mem_append_right _ h)) (by decide +kernel))
set_option maxRecDepth 20000 in
theorem gX8_ofSpring_X8_needRange : GoodIn wsX8_ofSpring (va_wsS RX8 19 yX8_needRange wsX8_needRange) := goodIn_app (goodIn_of _ (by decide +kernel)) ggX8_ofSpring_X8_needRange
set_option maxRecDepth 20000 in
theorem ggX8_ofFace_X8_needIndex : GoodIn wsX8_ofFace wsX8_needIndex := goodIn_ca (goodIn_r _ [5, 6, 7] (by decide +kernel) (by decide +kernel)) (goodIn_sub (fun _ h => List.mem_cons_of_mem _ (List.mem_append_right _ h)) (by decide +kernel))
set_option maxRecDepth 20000 in
theorem gX8_ofFace_X8_needIndex : GoodIn wsX8_ofFace (va_wsS RX8 71 yX8_needIndex wsX8_needIndex) := goodIn_app (goodIn_of _ (by decide +kernel)) ggX8_ofFace_X8_needIndex
set_option maxRecDepth 20000 in
theorem ggX8_pond_X8_needRange : GoodIn wsX8_pond wsX8_needRange := goodIn_ca (goodIn_r _ [5, 6, 7] (by decide +kernel) (by decide +kernel)) (goodIn_sub (fun _ h => List.mem_cons_of_mem _ (List.mem_append_right _ h)) (by decide +kernel))
set_option maxRecDepth 20000 in
theorem gX8_pond_X8_needRange : GoodIn wsX8_pond (va_wsS RX8 19 yX8_needRange wsX8_needRange) := goodIn_app (goodIn_of _ (by decide +kernel)) ggX8_pond_X8_needRange
set_option maxRecDepth 20000 in
theorem ggX8_pond_X6_part : GoodIn wsX8_pond wsX6_part := goodIn_r _ [12, 13, 14, 15, 16, 34, 35, 36, 37] (by decide +kernel) (by decide +kernel)
set_option maxRecDepth 20000 in
theorem gX8_pond_X6_part : GoodIn wsX8_pond (wsV RX8 180 RX6 yX6_part wsX6_part) := goodIn_app (goodIn_of _ (by decide +kernel)) ggX8_pond_X6_part
set_option maxRecDepth 20000 in
theorem ggX8_ofOwner_X8_needIndex : GoodIn wsX8_ofOwner wsX8_needIndex := goodIn_ca (goodIn_r _ [5, 6, 7] (by decide +kernel) (by decide +kernel)) (goodIn_sub (fun _ h => List.mem_cons_of_mem _ (List.mem_append_left _ (List.mem_append_right _ h))) (by decide +kernel))
set_option maxRecDepth 20000 in
theorem gX8_ofOwner_X8_needIndex : GoodIn wsX8_ofOwner (va_wsS RX8 71 yX8_needIndex wsX8_needIndex) := goodIn_app (goodIn_of _ (by decide +kernel)) ggX8_ofOwner_X8_needIndex
set_option maxRecDepth 20000 in
theorem ggX8_ofOwner_X8_needRange : GoodIn wsX8_ofOwner wsX8_needRange := goodIn_ca (goodIn_r _ [10, 11, 12] (by decide +kernel) (by decide +kernel)) (goodIn_sub (fun _ h => List.mem_cons_of_mem _ (List.mem_append_right _ h)) (by decide +kernel))
set_option maxRecDepth 20000 in
theorem gX8_ofOwner_X8_needRange : GoodIn wsX8_ofOwner (va_wsS RX8 19 yX8_needRange wsX8_needRange) := goodIn_app (goodIn_of _ (by decide +kernel)) ggX8_ofOwner_X8_needRange
set_option maxRecDepth 20000 in
theorem ggX8_ofOwner_X3_shareOf : GoodIn wsX8_ofOwner wsX3_shareOf := goodIn_r _ [17, 18, 19, 22, 23, 24, 25, 26, 27, 28, 29, 30, 31, 32, 33, 34, 35, 36, 37, 38, 39] (by decide +kernel) (by decide +kernel)
set_option maxRecDepth 20000 in
theorem gX8_ofOwner_X3_shareOf : GoodIn wsX8_ofOwner (wsV RX8 206 RX3 yX3_shareOf wsX3_shareOf) := goodIn_app (goodIn_of _ (by decide +kernel)) ggX8_ofOwner_X3_shareOf
set_option maxRecDepth 20000 in
theorem ggX8_mass_X8_needRange : GoodIn wsX8_mass wsX8_needRange := goodIn_ca (goodIn_r _ [5, 6, 7] (by decide +kernel) (by decide +kernel)) (goodIn_sub (fun _ h => List.mem_cons_of_mem _ (List.mem_append_right _ h)) (by decide +kernel))
set_option maxRecDepth 20000 in
theorem gX8_mass_X8_needRange : GoodIn wsX8_mass (va_wsS RX8 19 yX8_needRange wsX8_needRange) := goodIn_app (goodIn_of _ (by decide +kernel)) ggX8_mass_X8_needRange
set_option maxRecDepth 20000 in
theorem ggX8_mass_X3_inBlocks : GoodIn wsX8_mass wsX3_inBlocks := goodIn_r _ [12, 13, 14, 15, 16, 17, 18, 19, 20, 21, 22, 23, 26, 27, 28, 29, 30, 31, 32, 33, 34, 35, 36, 37, 38, 39, 40, 50, 51, 52, 46, 47, 48, 49] (by decide +kernel) (by decide +kernel)
set_option maxRecDepth 20000 in
theorem gX8_mass_X3_inBlocks : GoodIn wsX8_mass (wsV RX8 209 RX3 yX3_inBlocks wsX3_inBlocks) := goodIn_app (goodIn_of _ (by decide +kernel)) ggX8_mass_X3_inBlocks
set_option maxRecDepth 20000 in
theorem ggX8_isClosed_X3_accountedFor : GoodIn wsX8_isClosed wsX3_accountedFor := goodIn_r _ [6, 7, 8, 9, 10, 11, 5, 12, 13, 14, 15, 16, 17, 18, 19, 20, 21, 22, 23, 26, 27, 28, 29, 30, 31, 32, 33, 34, 35, 36, 37, 38, 39, 40, 41, 42, 43, 44, 45, 50, 51, 52, 46, 47, 48, 49] (by decide +kernel) (by decide +kernel)
set_option maxRecDepth 20000 in
theorem gX8_isClosed_X3_accountedFor : GoodIn wsX8_isClosed (wsV RX8 224 RX3 yX3_accountedFor wsX3_accountedFor) := goodIn_app (goodIn_of _ (by decide +kernel)) ggX8_isClosed_X3_accountedFor
set_option maxRecDepth 20000 in
theorem ggX8_many_X8_needRange : GoodIn wsX8_many wsX8_needRange := goodIn_ca (goodIn_r _ [5, 6, 7] (by decide +kernel) (by decide +kernel)) (goodIn_sub (fun _ h => List.mem_cons_of_mem _ (List.mem_append_right _ h)) (by decide +kernel))
set_option maxRecDepth 20000 in
theorem gX8_many_X8_needRange : GoodIn wsX8_many (va_wsS RX8 19 yX8_needRange wsX8_needRange) := goodIn_app (goodIn_of _ (by decide +kernel)) ggX8_many_X8_needRange
set_option maxRecDepth 20000 in
theorem ggX8_many_X3_light : GoodIn wsX8_many wsX3_light := goodIn_r _ [12, 13, 27, 28, 29, 30, 31, 32, 33, 34, 35, 36, 37, 38, 39, 40, 41] (by decide +kernel) (by decide +kernel)
set_option maxRecDepth 20000 in
theorem gX8_many_X3_light : GoodIn wsX8_many (wsV RX8 230 RX3 yX3_light wsX3_light) := goodIn_app (goodIn_of _ (by decide +kernel)) ggX8_many_X3_light
set_option maxRecDepth 20000 in
theorem ggX8_many_X3_lastShock : GoodIn wsX8_many wsX3_lastShock := goodIn_r _ [17, 13, 18, 27, 28, 29, 30, 31, 32, 33, 34, 35, 36, 37, 38, 39, 40, 41] (by decide +kernel) (by decide +kernel)
set_option maxRecDepth 20000 in
theorem gX8_many_X3_lastShock : GoodIn wsX8_many (wsV RX8 233 RX3 yX3_lastShock wsX3_lastShock) := goodIn_app (goodIn_of _ (by decide +kernel)) ggX8_many_X3_lastShock
set_option maxRecDepth 20000 in
theorem ggX8_many_X3_lackedEver : GoodIn wsX8_many wsX3_lackedEver := goodIn_r _ [22, 23, 24, 27, 28, 29, 30, 31, 32, 33, 34, 35, 36, 37, 38, 39, 40, 41, 48, 49, 50, 51, 52, 53, 54] (by decide +kernel) (by decide +kernel)
set_option maxRecDepth 20000 in
theorem gX8_many_X3_lackedEver : GoodIn wsX8_many (wsV RX8 245 RX3 yX3_lackedEver wsX3_lackedEver) := goodIn_app (goodIn_of _ (by decide +kernel)) ggX8_many_X3_lackedEver
set_option maxRecDepth 20000 in
theorem ggX8_meanWarmth_X0_warmth : GoodIn wsX8_meanWarmth wsX0_warmth := goodIn_r _ [6, 7, 8, 26, 27, 28, 29, 30, 31, 32] (by decide +kernel) (by decide +kernel)
set_option maxRecDepth 20000 in
theorem gX8_meanWarmth_X0_warmth : GoodIn wsX8_meanWarmth (wsV RX8 177 RX0 yX0_warmth wsX0_warmth) := goodIn_app (goodIn_of _ (by decide +kernel)) ggX8_meanWarmth_X0_warmth
set_option maxRecDepth 20000 in
theorem ggX8_wouldGive_X8_needRange : GoodIn wsX8_wouldGive wsX8_needRange := goodIn_ca (goodIn_r _ [6, 7, 8] (by decide +kernel) (by decide +kernel)) (goodIn_sub (fun _ h => List.mem_cons_of_mem _ (List.mem_append_right _ h)) (by decide +kernel))
set_option maxRecDepth 20000 in
theorem gX8_wouldGive_X8_needRange : GoodIn wsX8_wouldGive (va_wsS RX8 19 yX8_needRange wsX8_needRange) := goodIn_app (goodIn_of _ (by decide +kernel)) ggX8_wouldGive_X8_needRange
set_option maxRecDepth 20000 in
theorem ggX8_wouldGive_X3_copyFrom : GoodIn wsX8_wouldGive wsX3_copyFrom := goodIn_r _ [13, 14, 15, 16, 17, 18, 19, 20, 21, 22, 23, 24, 25, 26, 27, 28, 29, 30, 31, 32, 33, 34, 35, 36, 37, 38, 39, 40, 41, 42, 43, 44, 45, 46, 47, 48, 49, 50, 51, 52, 53, 54, 55, 56, 57, 58, 59, 60, 61, 62, 63, 64, 65, 66, 67, 68, 69, 70, 71, 72, 73, 74, 75, 76, 77, 78, 79, 80, 81, 82, 83, 84, 85, 86, 87, 88, 89, 90, 91, 92, 93, 94, 95, 96, 97, 98, 99, 100, 101, 102, 103, 104, 105, 106, 217, 218, 219, 220, 221, 222, 223, 224, 225, 226, 227, 228, 229, 230, 231, 232, 233, 234, 235, 236, 237, 238, 239, 240, 241, 242, 243, 244, 245, 246, 247, 248, 249, 250, 251, 252, 253, 254, 255, 256, 257, 258, 259, 260, 261, 262, 263, 264, 265, 266, 267, 268, 269] (by decide +kernel) (by decide +kernel)
set_option maxRecDepth 20000 in
theorem gX8_wouldGive_X3_copyFrom : GoodIn wsX8_wouldGive (wsV RX8 247 RX3 yX3_copyFrom wsX3_copyFrom) := goodIn_app (goodIn_of _ (by decide +kernel)) ggX8_wouldGive_X3_copyFrom
set_option maxRecDepth 20000 in
theorem ggX8_wouldGive_X8_powerIn : GoodIn wsX8_wouldGive wsX8_powerIn := goodIn_r _ [109, 110, 111, 112, 12, 113, 31, 28, 15, 29, 16, 26, 30, 17, 114, 115, 116, 117, 118, 119, 120, 121, 14, 122, 123, 124, 125, 126, 127, 128, 129, 130, 131, 132, 35, 133, 38, 37, 134, 135, 136, 137, 138, 139, 140, 141, 142, 143, 144, 145, 43, 146, 45, 147, 148, 149, 150, 46, 47, 48, 151, 152, 153, 154, 155, 156, 157, 158, 159, 160, 161, 162, 18, 163, 164, 165, 61, 166, 68, 69, 70, 71, 167, 168, 169, 170, 67, 66, 171, 172, 173, 174, 175, 19, 20, 176, 177, 178, 179, 180, 181, 182, 183, 184, 185, 186, 187, 188, 189, 190, 191, 192, 193, 194, 195, 196, 197, 198, 199, 200, 75, 201, 80, 79, 202, 81, 82, 83, 203, 204, 205, 206, 21, 207, 208, 209, 210, 27, 211, 212, 213, 214, 217, 218, 219, 220, 221, 222, 223, 224, 225, 226, 227, 228, 229, 230, 231, 259, 260, 261, 262, 263, 264, 243, 244, 245, 246, 247, 248, 249, 250, 251, 239, 240, 241, 242, 232, 233, 234, 235, 236, 237, 238, 265, 266, 267, 268, 269, 252, 253, 254, 255, 256, 257, 258] (by decide +kernel) (by decide +kernel)
set_option maxRecDepth 20000 in
theorem gX8_wouldGive_X8_powerIn : GoodIn wsX8_wouldGive (va_wsS RX8 169 yX8_powerIn wsX8_powerIn) := goodIn_app (goodIn_of _ (by decide +kernel)) ggX8_wouldGive_X8_powerIn
set_option maxRecDepth 20000 in
theorem ggX8_coldIn_X8_needIndex : GoodIn wsX8_coldIn wsX8_needIndex := goodIn_ca (goodIn_r _ [6, 7, 8] (by decide +kernel) (by decide +kernel)) (goodIn_sub (fun _ h => List.mem_cons_of_mem _ (List.mem_append_left _ (List.mem_append_right _ h))) (by decide +kernel))
set_option maxRecDepth 20000 in
theorem gX8_coldIn_X8_needIndex : GoodIn wsX8_coldIn (va_wsS RX8 71 yX8_needIndex wsX8_needIndex) := goodIn_app (goodIn_of _ (by decide +kernel)) ggX8_coldIn_X8_needIndex
set_option maxRecDepth 20000 in
theorem ggX8_coldIn_X8_needRange : GoodIn wsX8_coldIn wsX8_needRange := goodIn_ca (goodIn_r _ [11, 12, 13] (by decide +kernel) (by decide +kernel)) (goodIn_sub (fun _ h => List.mem_cons_of_mem _ (List.mem_append_right _ h)) (by decide +kernel))
set_option maxRecDepth 20000 in
theorem gX8_coldIn_X8_needRange : GoodIn wsX8_coldIn (va_wsS RX8 19 yX8_needRange wsX8_needRange) := goodIn_app (goodIn_of _ (by decide +kernel)) ggX8_coldIn_X8_needRange
set_option maxRecDepth 20000 in
theorem ggX8_coldIn_X3_copyFrom : GoodIn wsX8_coldIn wsX3_copyFrom := goodIn_r _ [18, 19, 20, 21, 22, 23, 24, 25, 26, 27, 28, 29, 30, 31, 32, 33, 34, 35, 36, 37, 38, 39, 40, 41, 42, 43, 44, 45, 46, 47, 48, 49, 50, 51, 52, 53, 54, 55, 56, 57, 58, 59, 60, 61, 62, 63, 64, 65, 66, 67, 68, 69, 70, 71, 72, 73, 74, 75, 76, 77, 78, 79, 80, 81, 82, 83, 84, 85, 86, 87, 88, 89, 90, 91, 92, 93, 94, 95, 96, 97, 98, 99, 100, 101, 102, 103, 104, 105, 106, 107, 108, 109, 110, 111, 220, 221, 222, 223, 224, 225, 226, 227, 228, 229, 230, 231, 232, 233, 234, 244, 245, 246, 247, 248, 249, 250, 251, 252, 253, 254, 235, 236, 237, 238, 239, 240, 241, 242, 243, 255, 256, 257, 258, 259, 260, 261, 262, 263, 264, 265, 266, 267, 268, 269, 270, 271, 272] (by decide +kernel) (by decide +kernel)
set_option maxRecDepth 20000 in
theorem gX8_coldIn_X3_copyFrom : GoodIn wsX8_coldIn (wsV RX8 247 RX3 yX3_copyFrom wsX3_copyFrom) := goodIn_app (goodIn_of _ (by decide +kernel)) ggX8_coldIn_X3_copyFrom
set_option maxRecDepth 20000 in
theorem ggX8_coldIn_X0_warmth : GoodIn wsX8_coldIn wsX0_warmth := goodIn_r _ [115, 43, 42, 244, 245, 246, 247, 248, 249, 250] (by decide +kernel) (by decide +kernel)
set_option maxRecDepth 20000 in
theorem gX8_coldIn_X0_warmth : GoodIn wsX8_coldIn (wsV RX8 177 RX0 yX0_warmth wsX0_warmth) := goodIn_app (goodIn_of _ (by decide +kernel)) ggX8_coldIn_X0_warmth
set_option maxRecDepth 20000 in
theorem ggX8_coldIn_X3_step : GoodIn wsX8_coldIn wsX3_step := goodIn_r _ [119, 36, 33, 20, 34, 21, 31, 35, 22, 120, 121, 122, 17, 123, 124, 125, 126, 127, 19, 128, 129, 130, 131, 132, 133, 134, 135, 136, 137, 138, 40, 139, 43, 42, 140, 141, 142, 143, 144, 145, 113, 114, 115, 146, 147, 148, 48, 149, 50, 150, 151, 152, 153, 51, 52, 53, 154, 155, 156, 157, 158, 159, 160, 161, 162, 163, 164, 165, 23, 166, 167, 168, 66, 169, 73, 74, 75, 76, 170, 171, 172, 173, 72, 71, 174, 175, 176, 177, 178, 24, 25, 179, 180, 181, 182, 183, 184, 185, 186, 187, 188, 189, 190, 191, 192, 193, 194, 195, 196, 197, 198, 199, 200, 201, 202, 203, 80, 204, 85, 84, 205, 86, 87, 88, 206, 207, 208, 209, 26, 210, 211, 212, 213, 32, 214, 215, 216, 217, 220, 221, 222, 223, 224, 225, 226, 227, 228, 229, 230, 231, 232, 233, 234, 235, 236, 237, 238, 239, 240, 241, 242, 243, 251, 252, 253, 254, 244, 245, 246, 247, 248, 249, 250, 262, 263, 264, 265, 266, 267, 268, 269, 270, 271, 272, 255, 256, 257, 258, 259, 260, 261] (by decide +kernel) (by decide +kernel)
set_option maxRecDepth 20000 in
theorem gX8_coldIn_X3_step : GoodIn wsX8_coldIn (wsV RX8 251 RX3 yX3_step wsX3_step) := goodIn_app (goodIn_of _ (by decide +kernel)) ggX8_coldIn_X3_step
set_option maxRecDepth 20000 in
theorem ggX8_causedBy_X8_needIndex : GoodIn wsX8_causedBy wsX8_needIndex := goodIn_ca (goodIn_r _ [6, 7, 8] (by decide +kernel) (by decide +kernel)) (goodIn_sub (fun _ h => List.mem_cons_of_mem _ (List.mem_append_left _ (List.mem_append_right _ h))) (by decide +kernel))
set_option maxRecDepth 20000 in
theorem gX8_causedBy_X8_needIndex : GoodIn wsX8_causedBy (va_wsS RX8 71 yX8_needIndex wsX8_needIndex) := goodIn_app (goodIn_of _ (by decide +kernel)) ggX8_causedBy_X8_needIndex
set_option maxRecDepth 20000 in
theorem ggX8_causedBy_X8_needRange : GoodIn wsX8_causedBy wsX8_needRange := goodIn_ca (goodIn_r _ [11, 12, 13] (by decide +kernel) (by decide +kernel)) (goodIn_sub (fun _ h => List.mem_cons_of_mem _ (List.mem_append_right _ h)) (by decide +kernel))
set_option maxRecDepth 20000 in
theorem gX8_causedBy_X8_needRange : GoodIn wsX8_causedBy (va_wsS RX8 19 yX8_needRange wsX8_needRange) := goodIn_app (goodIn_of _ (by decide +kernel)) ggX8_causedBy_X8_needRange
set_option maxRecDepth 20000 in
theorem ggX8_causedBy_X3_copyFrom : GoodIn wsX8_causedBy wsX3_copyFrom := goodIn_r _ [18, 19, 20, 21, 22, 23, 24, 25, 26, 27, 28, 29, 30, 31, 32, 33, 34, 35, 36, 37, 38, 39, 40, 41, 42, 43, 44, 45, 46, 47, 48, 49, 50, 51, 52, 53, 54, 55, 56, 57, 58, 59, 60, 61, 62, 63, 64, 65, 66, 67, 68, 69, 70, 71, 72, 73, 74, 75, 76, 77, 78, 79, 80, 81, 82, 83, 84, 85, 86, 87, 88, 89, 90, 91, 92, 93, 94, 95, 96, 97, 98, 99, 100, 101, 102, 103, 104, 105, 106, 107, 108, 109, 110, 111, 222, 223, 224, 225, 226, 227, 228, 229, 230, 231, 232, 233, 234, 235, 236, 253, 254, 255, 256, 257, 258, 259, 260, 261, 262, 263, 244, 245, 246, 247, 248, 249, 250, 251, 252, 237, 238, 239, 240, 241, 242, 243, 264, 265, 266, 267, 268, 269, 270, 271, 272, 273, 274] (by decide +kernel) (by decide +kernel)
set_option maxRecDepth 20000 in
theorem gX8_causedBy_X3_copyFrom : GoodIn wsX8_causedBy (wsV RX8 247 RX3 yX3_copyFrom wsX3_copyFrom) := goodIn_app (goodIn_of _ (by decide +kernel)) ggX8_causedBy_X3_copyFrom
set_option maxRecDepth 20000 in
theorem ggX8_causedBy_X8_powerIn : GoodIn wsX8_causedBy wsX8_powerIn := goodIn_r _ [114, 115, 116, 117, 17, 118, 36, 33, 20, 34, 21, 31, 35, 22, 119, 120, 121, 122, 123, 124, 125, 126, 19, 127, 128, 129, 130, 131, 132, 133, 134, 135, 136, 137, 40, 138, 43, 42, 139, 140, 141, 142, 143, 144, 145, 146, 147, 148, 149, 150, 48, 151, 50, 152, 153, 154, 155, 51, 52, 53, 156, 157, 158, 159, 160, 161, 162, 163, 164, 165, 166, 167, 23, 168, 169, 170, 66, 171, 73, 74, 75, 76, 172, 173, 174, 175, 72, 71, 176, 177, 178, 179, 180, 24, 25, 181, 182, 183, 184, 185, 186, 187, 188, 189, 190, 191, 192, 193, 194, 195, 196, 197, 198, 199, 200, 201, 202, 203, 204, 205, 80, 206, 85, 84, 207, 86, 87, 88, 208, 209, 210, 211, 26, 212, 213, 214, 215, 32, 216, 217, 218, 219, 222, 223, 224, 225, 226, 227, 228, 229, 230, 231, 232, 233, 234, 235, 236, 264, 265, 266, 267, 268, 269, 244, 245, 246, 247, 248, 249, 250, 251, 252, 260, 261, 262, 263, 253, 254, 255, 256, 257, 258, 259, 270, 271, 272, 273, 274, 237, 238, 239, 240, 241, 242, 243] (by decide +kernel) (by decide +kernel)
set_option maxRecDepth 20000 in
theorem gX8_causedBy_X8_powerIn : GoodIn wsX8_causedBy (va_wsS RX8 169 yX8_powerIn wsX8_powerIn) := goodIn_app (goodIn_of _ (by decide +kernel)) ggX8_causedBy_X8_powerIn
set_option maxRecDepth 20000 in
theorem ggX8_bestValves_X8_needRange : GoodIn wsX8_bestValves wsX8_needRange := goodIn_ca (goodIn_r _ [6, 7, 8] (by decide +kernel) (by decide +kernel)) (goodIn_sub (fun _ h => List.mem_cons_of_mem _ (List.mem_append_right _ h)) (by decide +kernel))
set_option maxRecDepth 20000 in
theorem gX8_bestValves_X8_needRange : GoodIn wsX8_bestValves (va_wsS RX8 19 yX8_needRange wsX8_needRange) := goodIn_app (goodIn_of _ (by decide +kernel)) ggX8_bestValves_X8_needRange
set_option maxRecDepth 20000 in
theorem ggX8_bestValves_X3_lackedEver : GoodIn wsX8_bestValves wsX3_lackedEver := goodIn_r _ [13, 14, 15, 225, 226, 227, 228, 229, 230, 231, 232, 233, 234, 235, 236, 237, 238, 239, 240, 241, 242, 243, 244, 245, 246] (by decide +kernel) (by decide +kernel)
set_option maxRecDepth 20000 in
theorem gX8_bestValves_X3_lackedEver : GoodIn wsX8_bestValves (wsV RX8 245 RX3 yX3_lackedEver wsX3_lackedEver) := goodIn_app (goodIn_of _ (by decide +kernel)) ggX8_bestValves_X3_lackedEver
set_option maxRecDepth 20000 in
theorem ggX8_bestValves_X3_copyFrom : GoodIn wsX8_bestValves wsX3_copyFrom := goodIn_r _ [19, 20, 21, 22, 15, 23, 24, 25, 26, 27, 28, 29, 30, 31, 32, 33, 34, 14, 35, 36, 37, 38, 39, 40, 41, 42, 43, 44, 45, 46, 47, 48, 49, 50, 51, 52, 53, 54, 55, 56, 57, 58, 59, 60, 61, 62, 63, 64, 65, 66, 67, 68, 69, 70, 71, 72, 73, 74, 75, 76, 77, 78, 79, 80, 81, 82, 83, 84, 85, 86, 87, 88, 89, 90, 91, 92, 93, 94, 95, 96, 97, 98, 99, 100, 101, 102, 103, 104, 105, 106, 107, 108, 109, 110, 225, 226, 227, 228, 229, 230, 231, 232, 233, 234, 235, 236, 237, 238, 239, 247, 248, 249, 250, 251, 252, 253, 254, 255, 256, 257, 258, 259, 260, 261, 262, 263, 264, 265, 266, 240, 241, 242, 243, 244, 245, 246, 267, 268, 269, 270, 271, 272, 273, 274, 275, 276, 277] (by decide +kernel) (by decide +kernel)
set_option maxRecDepth 20000 in
theorem gX8_bestValves_X3_copyFrom : GoodIn wsX8_bestValves (wsV RX8 247 RX3 yX3_copyFrom wsX3_copyFrom) := goodIn_app (goodIn_of _ (by decide +kernel)) ggX8_bestValves_X3_copyFrom
set_option maxRecDepth 20000 in
theorem ggX8_bestValves_X3_turnAll : GoodIn wsX8_bestValves wsX3_turnAll := goodIn_r _ [114, 34, 22, 225, 226, 227, 228, 229, 230, 231, 232, 233, 234, 235, 236, 237, 238, 239, 258, 259, 260, 261, 262, 263, 264, 265, 266] (by decide +kernel) (by decide +kernel)
set_option maxRecDepth 20000 in
theorem gX8_bestValves_X3_turnAll : GoodIn wsX8_bestValves (wsV RX8 254 RX3 yX3_turnAll wsX3_turnAll) := goodIn_app (goodIn_of _ (by decide +kernel)) ggX8_bestValves_X3_turnAll
set_option maxRecDepth 20000 in
theorem ggX8_bestValves_X8_powerIn : GoodIn wsX8_bestValves wsX8_powerIn := goodIn_r _ [117, 118, 119, 120, 12, 121, 35, 33, 21, 34, 22, 31, 14, 15, 122, 123, 124, 125, 126, 127, 128, 129, 20, 130, 131, 132, 133, 134, 135, 136, 137, 138, 139, 140, 39, 141, 42, 41, 142, 143, 144, 145, 146, 147, 148, 149, 150, 151, 152, 153, 47, 154, 49, 155, 156, 157, 158, 50, 51, 52, 159, 160, 161, 162, 163, 164, 165, 166, 167, 168, 169, 170, 23, 171, 172, 173, 65, 174, 72, 73, 74, 75, 175, 176, 177, 178, 71, 70, 179, 180, 181, 182, 183, 24, 25, 184, 185, 186, 187, 188, 189, 190, 191, 192, 193, 194, 195, 196, 197, 198, 199, 200, 201, 202, 203, 204, 205, 206, 207, 208, 79, 209, 84, 83, 210, 85, 86, 87, 211, 212, 213, 214, 26, 215, 216, 217, 218, 32, 219, 220, 221, 222, 225, 226, 227, 228, 229, 230, 231, 232, 233, 234, 235, 236, 237, 238, 239, 267, 268, 269, 270, 271, 272, 258, 259, 260, 261, 262, 263, 264, 265, 266, 254, 255, 256, 257, 247, 248, 249, 250, 251, 252, 253, 273, 274, 275, 276, 277, 240, 241, 242, 243, 244, 245, 246] (by decide +kernel) (by decide +kernel)
set_option maxRecDepth 20000 in
theorem gX8_bestValves_X8_powerIn : GoodIn wsX8_bestValves (va_wsS RX8 169 yX8_powerIn wsX8_powerIn) := goodIn_app (goodIn_of _ (by decide +kernel)) ggX8_bestValves_X8_powerIn
set_option maxRecDepth 20000 in
theorem ggX8_digest_X8_many : GoodIn wsX8_digest wsX8_many := goodIn_ca (goodIn_r _ [8, 3, 9, 10, 7, 11, 12, 13, 14, 15, 16, 17, 18, 19, 20, 21, 22, 23, 24, 25, 26, 27, 28, 29, 30, 304, 305, 306, 307, 308, 309, 310, 311, 312, 313, 314, 315, 316, 317, 318, 319, 320, 321, 322, 323, 324, 325, 326, 327, 328, 329, 330, 331, 332, 333] (by decide +kernel) (by decide +kernel)) (goodIn_sub (fun _ h => List.mem_cons_of_mem _ (List.mem_append_left _ (List.mem_append_right _ h))) (by decide +kernel))
set_option maxRecDepth 20000 in
theorem gX8_digest_X8_many : GoodIn wsX8_digest (wsV RX8 261 RX8 yX8_many wsX8_many) := goodIn_app (goodIn_of _ (by decide +kernel)) ggX8_digest_X8_many
set_option maxRecDepth 20000 in
theorem ggX8_digest_X8_ofBlock : GoodIn wsX8_digest wsX8_ofBlock := goodIn_ca (goodIn_ca (goodIn_r _ [34, 3, 35, 36, 7, 37, 38, 39, 9, 10, 11, 12, 13, 40, 41, 42, 43, 44, 45, 46, 47, 48, 49, 50, 51, 52, 53, 54, 55, 56, 57, 58, 59, 304, 305, 306, 307, 308, 309, 310, 311, 312, 313, 314, 315, 316, 317, 318, 319, 320, 334, 335, 336, 337, 338, 339, 340] (by decide +kernel) (by decide +kernel)) (goodIn_sub (fun _ h => List.mem_cons_of_mem _ (List.mem_append_right _ h)) (by decide +kernel))) (goodIn_sub (fun _ h => List.mem_cons_of_mem _ (List.mem_append_left _ (List.mem_append_right _ h))) (by decide +kernel))
set_option maxRecDepth 20000 in
theorem gX8_digest_X8_ofBlock : GoodIn wsX8_digest (wsV RX8 264 RX8 yX8_ofBlock wsX8_ofBlock) := goodIn_app (goodIn_of _ (by decide +kernel)) ggX8_digest_X8_ofBlock
set_option maxRecDepth 20000 in
theorem ggX8_digest_X8_ofWell : GoodIn wsX8_digest wsX8_ofWell := goodIn_ca (goodIn_ca (goodIn_r _ [63, 3, 35, 36, 7, 37, 38, 39, 9, 10, 11, 12, 13, 304, 305, 306, 307, 308, 309, 310, 311, 312, 313, 314, 315, 316, 317, 318, 319, 320, 341, 342, 343, 344, 345, 346, 347, 348, 349] (by decide +kernel) (by decide +kernel)) (goodIn_sub (fun _ h => List.mem_cons_of_mem _ (List.mem_append_right _ h)) (by decide +kernel))) (goodIn_sub (fun _ h => List.mem_cons_of_mem _ (List.mem_append_left _ (List.mem_append_right _ h))) (by decide +kernel))
set_option maxRecDepth 20000 in
theorem gX8_digest_X8_ofWell : GoodIn wsX8_digest (wsV RX8 268 RX8 yX8_ofWell wsX8_ofWell) := goodIn_app (goodIn_of _ (by decide +kernel)) ggX8_digest_X8_ofWell
set_option maxRecDepth 20000 in
theorem ggX8_digest_X8_coldIn : GoodIn wsX8_digest wsX8_coldIn := goodIn_ca (goodIn_ca (goodIn_r _ [67, 3, 68, 35, 36, 7, 37, 38, 39, 9, 10, 11, 12, 13, 69, 70, 71, 17, 72, 73, 74, 75, 30, 76, 77, 78, 79, 80, 81, 82, 83, 19, 84, 85, 86, 29, 24, 87, 88, 89, 43, 90, 46, 45, 91, 92, 93, 94, 54, 95, 56, 57, 58, 59, 96, 97, 98, 99, 100, 101, 102, 103, 104, 105, 106, 107, 108, 109, 110, 111, 112, 113, 114, 115, 116, 117, 118, 119, 120, 121, 122, 123, 124, 125, 126, 127, 128, 129, 130, 131, 132, 133, 134, 135, 136, 137, 138, 139, 140, 141, 142, 143, 144, 145, 146, 147, 148, 149, 150, 151, 152, 153, 47, 48, 49, 50, 154, 155, 156, 157, 158, 15, 16, 18, 159, 160, 161, 162, 163, 164, 165, 166, 167, 168, 169, 170, 171, 41, 42, 44, 172, 173, 174, 175, 176, 177, 178, 179, 180, 181, 182, 183, 184, 185, 186, 187, 188, 189, 190, 191, 192, 193, 194, 195, 196, 197, 198, 199, 200, 201, 202, 203, 204, 205, 206, 207, 208, 209, 210, 211, 212, 213, 214, 215, 216, 217, 218, 219, 220, 221, 222, 223, 224, 225, 226, 227, 228, 229, 230, 231, 232, 233, 234, 235, 236, 237, 238, 239, 240, 241, 242, 243, 244, 245, 246, 247, 248, 249, 304, 305, 306, 307, 308, 309, 310, 311, 312, 313, 314, 315, 316, 317, 318, 319, 320, 341, 342, 343, 344, 345, 346, 347, 348, 349, 334, 335, 336, 337, 338, 339, 340, 350, 351, 352, 353, 327, 328, 329, 330, 331, 332, 333, 321, 322, 323, 324, 325, 326, 354, 355, 356, 357, 358] (by decide +kernel) (by decide +kernel)) (goodIn_sub (fun _ h => List.mem_cons_of_mem _ (List.mem_append_right _ h)) (by decide +kernel))) (goodIn_sub (fun _ h => List.mem_cons_of_mem _ (List.mem_append_left _ (List.mem_append_right _ h))) (by decide +kernel))
set_option maxRecDepth 20000 in
theorem gX8_digest_X8_coldIn : GoodIn wsX8_digest (wsV RX8 271 RX8 yX8_coldIn wsX8_coldIn) := goodIn_app (goodIn_of _ (by decide +kernel)) ggX8_digest_X8_coldIn
set_option maxRecDepth 20000 in
theorem ggX8_digest_X8_ofFace : GoodIn wsX8_digest wsX8_ofFace := goodIn_ca (goodIn_r _ [253, 3, 35, 36, 7, 37, 38, 39, 304, 305, 306, 307, 308, 309, 310, 311, 312, 313, 314, 315, 316, 317, 318, 319, 320, 350, 351, 352, 353] (by decide +kernel) (by decide +kernel)) (goodIn_sub (fun _ h => List.mem_cons_of_mem _ (List.mem_append_right _ h)) (by decide +kernel))
set_option maxRecDepth 20000 in
theorem gX8_digest_X8_ofFace : GoodIn wsX8_digest (wsV RX8 274 RX8 yX8_ofFace wsX8_ofFace) := goodIn_app (goodIn_of _ (by decide +kernel)) ggX8_digest_X8_ofFace
set_option maxRecDepth 20000 in
theorem ggX8_digest_X8_ofSpring : GoodIn wsX8_digest wsX8_ofSpring := goodIn_ca (goodIn_ca (goodIn_r _ [257, 3, 35, 36, 7, 37, 38, 39, 9, 10, 11, 12, 13, 304, 305, 306, 307, 308, 309, 310, 311, 312, 313, 314, 315, 316, 317, 318, 319, 320, 327, 328, 329, 330, 331, 332, 333] (by decide +kernel) (by decide +kernel)) (goodIn_sub (fun _ h => List.mem_cons_of_mem _ (List.mem_append_right _ h)) (by decide +kernel))) (goodIn_sub (fun _ h => List.mem_cons_of_mem _ (List.mem_append_left _ (List.mem_append_right _ h))) (by decide +kernel))
set_option maxRecDepth 20000 in
theorem gX8_digest_X8_ofSpring : GoodIn wsX8_digest (wsV RX8 278 RX8 yX8_ofSpring wsX8_ofSpring) := goodIn_app (goodIn_of _ (by decide +kernel)) ggX8_digest_X8_ofSpring
set_option maxRecDepth 20000 in
theorem ggX8_digest_X8_causedBy : GoodIn wsX8_digest wsX8_causedBy := goodIn_ca (goodIn_ca (goodIn_r _ [261, 3, 68, 35, 36, 7, 37, 38, 39, 9, 10, 11, 12, 13, 69, 70, 71, 17, 72, 73, 74, 75, 30, 76, 77, 78, 79, 80, 81, 82, 83, 19, 84, 85, 86, 29, 24, 87, 88, 89, 43, 90, 46, 45, 91, 92, 93, 94, 54, 95, 56, 57, 58, 59, 96, 97, 98, 99, 100, 101, 102, 103, 104, 105, 106, 107, 108, 109, 110, 111, 112, 113, 114, 115, 116, 117, 118, 119, 120, 121, 122, 123, 124, 125, 126, 127, 128, 129, 130, 131, 132, 133, 134, 135, 136, 137, 138, 139, 140, 141, 142, 143, 144, 145, 146, 147, 148, 149, 150, 151, 152, 153, 262, 263, 264, 154, 155, 156, 157, 158, 15, 16, 18, 159, 160, 161, 162, 163, 164, 165, 166, 167, 168, 169, 170, 171, 41, 42, 44, 172, 173, 174, 175, 176, 177, 48, 49, 50, 178, 179, 180, 181, 182, 183, 184, 185, 186, 187, 188, 189, 190, 191, 192, 193, 194, 195, 196, 197, 198, 199, 200, 201, 202, 203, 204, 205, 206, 207, 208, 209, 210, 211, 212, 213, 214, 215, 216, 217, 218, 219, 220, 221, 222, 223, 224, 225, 226, 227, 228, 229, 230, 231, 232, 233, 234, 235, 236, 237, 238, 239, 240, 241, 242, 243, 244, 245, 246, 247, 248, 249, 304, 305, 306, 307, 308, 309, 310, 311, 312, 313, 314, 315, 316, 317, 318, 319, 320, 327, 328, 329, 330, 331, 332, 333, 341, 342, 343, 344, 345, 346, 347, 348, 349, 334, 335, 336, 337, 338, 339, 340, 350, 351, 352, 353, 321, 322, 323, 324, 325, 326, 354, 355, 356, 357, 358] (by decide +kernel) (by decide +kernel)) (goodIn_sub (fun _ h => List.mem_cons_of_mem _ (List.mem_append_right _ h)) (by decide +kernel))) (goodIn_sub (fun _ h => List.mem_cons_of_mem _ (List.mem_append_left _ (List.mem_append_right _ h))) (by decide +kernel))
set_option maxRecDepth 20000 in
theorem gX8_digest_X8_causedBy : GoodIn wsX8_digest (wsV RX8 281 RX8 yX8_causedBy wsX8_causedBy) := goodIn_app (goodIn_of _ (by decide +kernel)) ggX8_digest_X8_causedBy
set_option maxRecDepth 20000 in
theorem ggX8_digest_X8_pond : GoodIn wsX8_digest wsX8_pond := goodIn_ca (goodIn_r _ [268, 3, 9, 10, 7, 11, 12, 13, 51, 52, 53, 54, 55, 56, 57, 58, 59, 304, 305, 306, 307, 308, 309, 310, 311, 312, 313, 314, 315, 316, 317, 318, 319, 320, 337, 338, 339, 340] (by decide +kernel) (by decide +kernel)) (goodIn_sub (fun _ h => List.mem_cons_of_mem _ (List.mem_append_left _ (List.mem_append_right _ h))) (by decide +kernel))
set_option maxRecDepth 20000 in
theorem gX8_digest_X8_pond : GoodIn wsX8_digest (wsV RX8 285 RX8 yX8_pond wsX8_pond) := goodIn_app (goodIn_of _ (by decide +kernel)) ggX8_digest_X8_pond
set_option maxRecDepth 20000 in
theorem ggX8_digest_X8_ofOwner : GoodIn wsX8_digest wsX8_ofOwner := goodIn_ca (goodIn_ca (goodIn_r _ [272, 3, 35, 36, 7, 37, 38, 39, 9, 10, 11, 12, 13, 273, 243, 244, 17, 245, 84, 73, 304, 305, 306, 307, 308, 309, 310, 311, 312, 313, 314, 315, 316, 317, 318, 319, 320, 334, 335, 336] (by decide +kernel) (by decide +kernel)) (goodIn_sub (fun _ h => List.mem_cons_of_mem _ (List.mem_append_right _ h)) (by decide +kernel))) (goodIn_sub (fun _ h => List.mem_cons_of_mem _ (List.mem_append_left _ (List.mem_append_right _ h))) (by decide +kernel))
set_option maxRecDepth 20000 in
theorem gX8_digest_X8_ofOwner : GoodIn wsX8_digest (wsV RX8 287 RX8 yX8_ofOwner wsX8_ofOwner) := goodIn_app (goodIn_of _ (by decide +kernel)) ggX8_digest_X8_ofOwner
set_option maxRecDepth 20000 in
theorem ggX8_digest_X8_mass : GoodIn wsX8_digest wsX8_mass := goodIn_ca (goodIn_r _ [277, 3, 9, 10, 7, 11, 12, 13, 278, 279, 280, 17, 281, 84, 73, 282, 52, 53, 54, 55, 56, 57, 58, 59, 304, 305, 306, 307, 308, 309, 310, 311, 312, 313, 314, 315, 316, 317, 318, 319, 320, 354, 355, 356, 357, 358, 337, 338, 339, 340, 334, 335, 336] (by decide +kernel) (by decide +kernel)) (goodIn_sub (fun _ h => List.mem_cons_of_mem _ (List.mem_append_left _ (List.mem_append_right _ h))) (by decide +kernel))
set_option maxRecDepth 20000 in
theorem gX8_digest_X8_mass : GoodIn wsX8_digest (wsV RX8 290 RX8 yX8_mass wsX8_mass) := goodIn_app (goodIn_of _ (by decide +kernel)) ggX8_digest_X8_mass
set_option maxRecDepth 20000 in
theorem ggX8_digest_X8_isClosed : GoodIn wsX8_digest wsX8_isClosed := goodIn_r _ [286, 3, 287, 288, 289, 17, 290, 76, 78, 291, 279, 280, 281, 84, 73, 282, 52, 53, 54, 55, 56, 57, 58, 59, 304, 305, 306, 307, 308, 309, 310, 311, 312, 313, 314, 315, 316, 317, 318, 319, 320, 354, 355, 356, 357, 358, 337, 338, 339, 340, 334, 335, 336] (by decide +kernel) (by decide +kernel)
set_option maxRecDepth 20000 in
theorem gX8_digest_X8_isClosed : GoodIn wsX8_digest (wsV RX8 292 RX8 yX8_isClosed wsX8_isClosed) := goodIn_app (goodIn_of _ (by decide +kernel)) ggX8_digest_X8_isClosed
set_option maxRecDepth 20000 in
theorem ggX8_digest_X8_wouldGive : GoodIn wsX8_digest wsX8_wouldGive := goodIn_ca (goodIn_r _ [295, 68, 3, 9, 10, 7, 11, 12, 13, 69, 70, 71, 17, 72, 73, 74, 75, 30, 76, 77, 78, 79, 80, 81, 82, 83, 19, 84, 85, 86, 29, 24, 87, 88, 89, 43, 90, 46, 45, 91, 92, 93, 94, 54, 95, 56, 57, 58, 59, 96, 97, 98, 99, 100, 101, 102, 103, 104, 105, 106, 107, 108, 109, 110, 111, 112, 113, 114, 115, 116, 117, 118, 119, 120, 121, 122, 123, 124, 125, 126, 127, 128, 129, 130, 131, 132, 133, 134, 135, 136, 137, 138, 139, 140, 141, 142, 143, 144, 145, 146, 147, 148, 149, 150, 151, 152, 153, 262, 263, 264, 154, 155, 156, 157, 158, 15, 16, 18, 159, 160, 161, 162, 163, 164, 165, 166, 167, 168, 169, 170, 171, 41, 42, 44, 172, 173, 174, 175, 176, 177, 48, 49, 50, 178, 179, 180, 181, 182, 183, 184, 185, 186, 187, 188, 189, 190, 191, 192, 193, 194, 195, 196, 197, 198, 199, 200, 201, 202, 203, 204, 205, 206, 207, 208, 209, 210, 211, 212, 213, 214, 215, 216, 217, 218, 219, 220, 221, 222, 223, 224, 225, 226, 227, 228, 229, 230, 231, 232, 233, 234, 235, 236, 237, 238, 239, 240, 241, 242, 243, 244, 245, 246, 247, 248, 249, 304, 305, 306, 307, 308, 309, 310, 311, 312, 313, 314, 315, 316, 317, 318, 319, 320, 334, 335, 336, 337, 338, 339, 340, 350, 351, 352, 353, 341, 342, 343, 344, 345, 346, 347, 348, 349, 327, 328, 329, 330, 331, 332, 333, 321, 322, 323, 324, 325, 326, 354, 355, 356, 357, 358] (by decide +kernel) (by decide +kernel)) (goodIn_sub (fun _ h => List.mem_cons_of_mem _ (List.mem_append_left _ (List.mem_append_right _ h))) (by decide +kernel))
set_option maxRecDepth 20000 in
theorem gX8_digest_X8_wouldGive : GoodIn wsX8_digest (wsV RX8 296 RX8 yX8_wouldGive wsX8_wouldGive) := goodIn_app (goodIn_of _ (by decide +kernel)) ggX8_digest_X8_wouldGive
set_option maxRecDepth 20000 in
theorem ggX8_digest_X8_bestValves : GoodIn wsX8_digest wsX8_bestValves := goodIn_ca (goodIn_r _ [299, 3, 68, 9, 10, 7, 11, 12, 13, 25, 26, 27, 17, 28, 29, 30, 69, 70, 71, 72, 73, 74, 75, 76, 77, 78, 79, 80, 81, 82, 83, 19, 84, 85, 86, 24, 87, 88, 89, 43, 90, 46, 45, 91, 92, 93, 94, 54, 95, 56, 57, 58, 59, 96, 97, 98, 99, 100, 101, 102, 103, 104, 105, 106, 107, 108, 109, 110, 111, 112, 113, 114, 115, 116, 117, 118, 119, 120, 121, 122, 123, 124, 125, 126, 127, 128, 129, 130, 131, 132, 133, 134, 135, 136, 137, 138, 139, 140, 141, 142, 143, 144, 145, 146, 147, 148, 149, 150, 151, 152, 153, 300, 301, 302, 303, 262, 263, 264, 154, 155, 156, 157, 158, 15, 16, 18, 159, 160, 161, 162, 163, 164, 165, 166, 167, 168, 169, 170, 171, 41, 42, 44, 172, 173, 174, 175, 176, 177, 48, 49, 50, 178, 179, 180, 181, 182, 183, 184, 185, 186, 187, 188, 189, 190, 191, 192, 193, 194, 195, 196, 197, 198, 199, 200, 201, 202, 203, 204, 205, 206, 207, 208, 209, 210, 211, 212, 213, 214, 215, 216, 217, 218, 219, 220, 221, 222, 223, 224, 225, 226, 227, 228, 229, 230, 231, 232, 233, 234, 235, 236, 237, 238, 239, 240, 241, 242, 243, 244, 245, 246, 247, 248, 249, 304, 305, 306, 307, 308, 309, 310, 311, 312, 313, 314, 315, 316, 317, 318, 319, 320, 327, 328, 329, 330, 331, 332, 333, 334, 335, 336, 337, 338, 339, 340, 350, 351, 352, 353, 341, 342, 343, 344, 345, 346, 347, 348, 349, 321, 322, 323, 324, 325, 326, 354, 355, 356, 357, 358] (by decide +kernel) (by decide +kernel)) (goodIn_sub (fun _ h => List.mem_cons_of_mem _ (List.mem_append_left _ (List.mem_append_right _ h))) (by decide +kernel))
set_option maxRecDepth 20000 in
theorem gX8_digest_X8_bestValves : GoodIn wsX8_digest (wsV RX8 299 RX8 yX8_bestValves wsX8_bestValves) := goodIn_app (goodIn_of _ (by decide +kernel)) ggX8_digest_X8_bestValves
set_option maxRecDepth 20000 in
theorem ggX8_powerIn_X3_step : GoodIn wsX8_powerIn wsX3_step := goodIn_r _ [5, 6, 7, 8, 9, 10, 11, 12, 13, 14, 15, 16, 4, 17, 18, 19, 20, 21, 22, 23, 24, 25, 26, 27, 28, 29, 30, 31, 32, 33, 34, 35, 36, 37, 38, 39, 40, 41, 42, 43, 44, 45, 46, 47, 48, 49, 50, 51, 52, 53, 54, 55, 56, 57, 58, 59, 60, 61, 62, 63, 64, 65, 66, 67, 68, 69, 70, 71, 72, 73, 74, 75, 76, 77, 78, 79, 80, 81, 82, 83, 84, 85, 86, 87, 88, 89, 90, 91, 92, 93, 94, 95, 96, 97, 98, 99, 100, 101, 102, 103, 104, 105, 106, 107, 108, 109, 110, 111, 112, 113, 114, 115, 116, 117, 118, 119, 120, 121, 122, 123, 124, 125, 126, 127, 128, 129, 130, 131, 132, 133, 134, 135, 136, 137, 138, 139, 140, 141, 142, 143, 144, 145, 146, 147, 148, 149, 150, 151, 152, 153, 154, 155, 156, 163, 164, 165, 166, 167, 168, 169, 170, 171, 172, 173, 174, 175, 176, 177, 178, 179, 180, 181, 182, 157, 158, 159, 160, 161, 162, 183, 184, 185, 186, 187, 188, 189, 190, 191, 192, 193, 194] (by decide +kernel) (by decide +kernel)
set_option maxRecDepth 20000 in
theorem gX8_powerIn_X3_step : GoodIn wsX8_powerIn (wsV RX8 251 RX3 yX3_step wsX3_step) := goodIn_app (goodIn_of _ (by decide +kernel)) ggX8_powerIn_X3_step
abbrev vwCl : List vw_C := [(RX0, TX0, 3), (RX1, TX1, 5), (RX2, TX2, 4), (RX3, TX3, 15), (RX4, TX4, 6), (RX5, TX5, 7), (RX6, TX6, 4), (RX7, TX7, 9), (RX8, TX8, 2)]
end
section
theorem dX0_init_0 : decode cX0_init 0 = .ok (.aload_n 0, 1) := by decide +kernel
theorem dX0_init_1 : decode cX0_init 1 = .ok (.invokespecial 1, 3) := by decide +kernel
theorem dX0_init_4 : decode cX0_init 4 = .ok (.aload_n 0, 1) := by decide +kernel
theorem dX0_init_5 : decode cX0_init 5 = .ok (.new 7, 3) := by decide +kernel
theorem dX0_init_8 : decode cX0_init 8 = .ok (.dup, 1) := by decide +kernel
theorem dX0_init_9 : decode cX0_init 9 = .ok (.invokespecial 9, 3) := by decide +kernel
theorem dX0_init_12 : decode cX0_init 12 = .ok (.putfield 10, 3) := by decide +kernel
theorem dX0_init_15 : decode cX0_init 15 = .ok (.return_, 1) := by decide +kernel
theorem dX0_copyFrom_0 : decode cX0_copyFrom 0 = .ok (.aload_n 0, 1) := by decide +kernel
theorem dX0_copyFrom_1 : decode cX0_copyFrom 1 = .ok (.getfield 10, 3) := by decide +kernel
theorem dX0_copyFrom_4 : decode cX0_copyFrom 4 = .ok (.aload_n 1, 1) := by decide +kernel
theorem dX0_copyFrom_5 : decode cX0_copyFrom 5 = .ok (.getfield 10, 3) := by decide +kernel
theorem dX0_copyFrom_8 : decode cX0_copyFrom 8 = .ok (.invokevirtual 16, 3) := by decide +kernel
theorem dX0_copyFrom_11 : decode cX0_copyFrom 11 = .ok (.aload_n 0, 1) := by decide +kernel
theorem dX0_copyFrom_12 : decode cX0_copyFrom 12 = .ok (.aload_n 1, 1) := by decide +kernel
theorem dX0_copyFrom_13 : decode cX0_copyFrom 13 = .ok (.getfield 20, 3) := by decide +kernel
theorem dX0_copyFrom_16 : decode cX0_copyFrom 16 = .ok (.putfield 20, 3) := by decide +kernel
theorem dX0_copyFrom_19 : decode cX0_copyFrom 19 = .ok (.aload_n 0, 1) := by decide +kernel
theorem dX0_copyFrom_20 : decode cX0_copyFrom 20 = .ok (.aload_n 1, 1) := by decide +kernel
theorem dX0_copyFrom_21 : decode cX0_copyFrom 21 = .ok (.getfield 24, 3) := by decide +kernel
theorem dX0_copyFrom_24 : decode cX0_copyFrom 24 = .ok (.putfield 24, 3) := by decide +kernel
theorem dX0_copyFrom_27 : decode cX0_copyFrom 27 = .ok (.return_, 1) := by decide +kernel
theorem dX0_pressure_0 : decode cX0_pressure 0 = .ok (.aload_n 0, 1) := by decide +kernel
theorem dX0_pressure_1 : decode cX0_pressure 1 = .ok (.getfield 20, 3) := by decide +kernel
theorem dX0_pressure_4 : decode cX0_pressure 4 = .ok (.ifCond .le 21, 3) := by decide +kernel
theorem dX0_pressure_7 : decode cX0_pressure 7 = .ok (.bipush 10, 2) := by decide +kernel
theorem dX0_pressure_9 : decode cX0_pressure 9 = .ok (.aload_n 0, 1) := by decide +kernel
theorem dX0_pressure_10 : decode cX0_pressure 10 = .ok (.getfield 10, 3) := by decide +kernel
theorem dX0_pressure_13 : decode cX0_pressure 13 = .ok (.getfield 27, 3) := by decide +kernel
theorem dX0_pressure_16 : decode cX0_pressure 16 = .ok (.imul, 1) := by decide +kernel
theorem dX0_pressure_17 : decode cX0_pressure 17 = .ok (.aload_n 0, 1) := by decide +kernel
theorem dX0_pressure_18 : decode cX0_pressure 18 = .ok (.getfield 20, 3) := by decide +kernel
theorem dX0_pressure_21 : decode cX0_pressure 21 = .ok (.idiv, 1) := by decide +kernel
theorem dX0_pressure_22 : decode cX0_pressure 22 = .ok (.goto 4, 3) := by decide +kernel
theorem dX0_pressure_25 : decode cX0_pressure 25 = .ok (.iconst 0, 1) := by decide +kernel
theorem dX0_pressure_26 : decode cX0_pressure 26 = .ok (.ireturn, 1) := by decide +kernel
theorem dX0_warmth_0 : decode cX0_warmth 0 = .ok (.aload_n 0, 1) := by decide +kernel
theorem dX0_warmth_1 : decode cX0_warmth 1 = .ok (.getfield 20, 3) := by decide +kernel
theorem dX0_warmth_4 : decode cX0_warmth 4 = .ok (.aload_n 0, 1) := by decide +kernel
theorem dX0_warmth_5 : decode cX0_warmth 5 = .ok (.getfield 10, 3) := by decide +kernel
theorem dX0_warmth_8 : decode cX0_warmth 8 = .ok (.getfield 27, 3) := by decide +kernel
theorem dX0_warmth_11 : decode cX0_warmth 11 = .ok (.iadd, 1) := by decide +kernel
theorem dX0_warmth_12 : decode cX0_warmth 12 = .ok (.istore_n 1, 1) := by decide +kernel
theorem dX0_warmth_13 : decode cX0_warmth 13 = .ok (.iload_n 1, 1) := by decide +kernel
theorem dX0_warmth_14 : decode cX0_warmth 14 = .ok (.ifCond .le 15, 3) := by decide +kernel
theorem dX0_warmth_17 : decode cX0_warmth 17 = .ok (.aload_n 0, 1) := by decide +kernel
theorem dX0_warmth_18 : decode cX0_warmth 18 = .ok (.getfield 10, 3) := by decide +kernel
theorem dX0_warmth_21 : decode cX0_warmth 21 = .ok (.getfield 30, 3) := by decide +kernel
theorem dX0_warmth_24 : decode cX0_warmth 24 = .ok (.iload_n 1, 1) := by decide +kernel
theorem dX0_warmth_25 : decode cX0_warmth 25 = .ok (.idiv, 1) := by decide +kernel
theorem dX0_warmth_26 : decode cX0_warmth 26 = .ok (.goto 4, 3) := by decide +kernel
theorem dX0_warmth_29 : decode cX0_warmth 29 = .ok (.iconst 0, 1) := by decide +kernel
theorem dX0_warmth_30 : decode cX0_warmth 30 = .ok (.ireturn, 1) := by decide +kernel
theorem dX0_take_0 : decode cX0_take 0 = .ok (.iload_n 1, 1) := by decide +kernel
theorem dX0_take_1 : decode cX0_take 1 = .ok (.aload_n 0, 1) := by decide +kernel
theorem dX0_take_2 : decode cX0_take 2 = .ok (.getfield 10, 3) := by decide +kernel
theorem dX0_take_5 : decode cX0_take 5 = .ok (.getfield 27, 3) := by decide +kernel
theorem dX0_take_8 : decode cX0_take 8 = .ok (.iconst 4, 1) := by decide +kernel
theorem dX0_take_9 : decode cX0_take 9 = .ok (.idiv, 1) := by decide +kernel
theorem dX0_take_10 : decode cX0_take 10 = .ok (.invokestatic 33, 3) := by decide +kernel
theorem dX0_take_13 : decode cX0_take 13 = .ok (.istore_n 3, 1) := by decide +kernel
theorem dX0_take_14 : decode cX0_take 14 = .ok (.aload_n 2, 1) := by decide +kernel
theorem dX0_take_15 : decode cX0_take 15 = .ok (.iload_n 3, 1) := by decide +kernel
theorem dX0_take_16 : decode cX0_take 16 = .ok (.putfield 27, 3) := by decide +kernel
theorem dX0_take_19 : decode cX0_take 19 = .ok (.aload_n 2, 1) := by decide +kernel
theorem dX0_take_20 : decode cX0_take 20 = .ok (.iload_n 3, 1) := by decide +kernel
theorem dX0_take_21 : decode cX0_take 21 = .ok (.aload_n 0, 1) := by decide +kernel
theorem dX0_take_22 : decode cX0_take 22 = .ok (.invokevirtual 39, 3) := by decide +kernel
theorem dX0_take_25 : decode cX0_take 25 = .ok (.imul, 1) := by decide +kernel
theorem dX0_take_26 : decode cX0_take 26 = .ok (.putfield 30, 3) := by decide +kernel
theorem dX0_take_29 : decode cX0_take 29 = .ok (.aload_n 2, 1) := by decide +kernel
theorem dX0_take_30 : decode cX0_take 30 = .ok (.aload_n 0, 1) := by decide +kernel
theorem dX0_take_31 : decode cX0_take 31 = .ok (.getfield 10, 3) := by decide +kernel
theorem dX0_take_34 : decode cX0_take 34 = .ok (.aload_n 0, 1) := by decide +kernel
theorem dX0_take_35 : decode cX0_take 35 = .ok (.getfield 10, 3) := by decide +kernel
theorem dX0_take_38 : decode cX0_take 38 = .ok (.getfield 43, 3) := by decide +kernel
theorem dX0_take_41 : decode cX0_take 41 = .ok (.iload_n 3, 1) := by decide +kernel
theorem dX0_take_42 : decode cX0_take 42 = .ok (.invokevirtual 46, 3) := by decide +kernel
theorem dX0_take_45 : decode cX0_take 45 = .ok (.putfield 43, 3) := by decide +kernel
theorem dX0_take_48 : decode cX0_take 48 = .ok (.aload_n 2, 1) := by decide +kernel
theorem dX0_take_49 : decode cX0_take 49 = .ok (.aload_n 0, 1) := by decide +kernel
theorem dX0_take_50 : decode cX0_take 50 = .ok (.getfield 10, 3) := by decide +kernel
theorem dX0_take_53 : decode cX0_take 53 = .ok (.aload_n 0, 1) := by decide +kernel
theorem dX0_take_54 : decode cX0_take 54 = .ok (.getfield 10, 3) := by decide +kernel
theorem dX0_take_57 : decode cX0_take 57 = .ok (.getfield 49, 3) := by decide +kernel
theorem dX0_take_60 : decode cX0_take 60 = .ok (.iload_n 3, 1) := by decide +kernel
theorem dX0_take_61 : decode cX0_take 61 = .ok (.invokevirtual 46, 3) := by decide +kernel
theorem dX0_take_64 : decode cX0_take 64 = .ok (.putfield 49, 3) := by decide +kernel
theorem dX0_take_67 : decode cX0_take 67 = .ok (.aload_n 0, 1) := by decide +kernel
theorem dX0_take_68 : decode cX0_take 68 = .ok (.getfield 10, 3) := by decide +kernel
theorem dX0_take_71 : decode cX0_take 71 = .ok (.aload_n 2, 1) := by decide +kernel
theorem dX0_take_72 : decode cX0_take 72 = .ok (.invokevirtual 52, 3) := by decide +kernel
theorem dX0_take_75 : decode cX0_take 75 = .ok (.return_, 1) := by decide +kernel
theorem dX1_init_0 : decode cX1_init 0 = .ok (.aload_n 0, 1) := by decide +kernel
theorem dX1_init_1 : decode cX1_init 1 = .ok (.invokespecial 1, 3) := by decide +kernel
theorem dX1_init_4 : decode cX1_init 4 = .ok (.aload_n 0, 1) := by decide +kernel
theorem dX1_init_5 : decode cX1_init 5 = .ok (.new 7, 3) := by decide +kernel
theorem dX1_init_8 : decode cX1_init 8 = .ok (.dup, 1) := by decide +kernel
theorem dX1_init_9 : decode cX1_init 9 = .ok (.invokespecial 9, 3) := by decide +kernel
theorem dX1_init_12 : decode cX1_init 12 = .ok (.putfield 10, 3) := by decide +kernel
theorem dX1_init_15 : decode cX1_init 15 = .ok (.aload_n 0, 1) := by decide +kernel
theorem dX1_init_16 : decode cX1_init 16 = .ok (.new 7, 3) := by decide +kernel
theorem dX1_init_19 : decode cX1_init 19 = .ok (.dup, 1) := by decide +kernel
theorem dX1_init_20 : decode cX1_init 20 = .ok (.invokespecial 9, 3) := by decide +kernel
theorem dX1_init_23 : decode cX1_init 23 = .ok (.putfield 16, 3) := by decide +kernel
theorem dX1_init_26 : decode cX1_init 26 = .ok (.aload_n 0, 1) := by decide +kernel
theorem dX1_init_27 : decode cX1_init 27 = .ok (.new 7, 3) := by decide +kernel
theorem dX1_init_30 : decode cX1_init 30 = .ok (.dup, 1) := by decide +kernel
theorem dX1_init_31 : decode cX1_init 31 = .ok (.invokespecial 9, 3) := by decide +kernel
theorem dX1_init_34 : decode cX1_init 34 = .ok (.putfield 19, 3) := by decide +kernel
theorem dX1_init_37 : decode cX1_init 37 = .ok (.return_, 1) := by decide +kernel
theorem dX1_copyFrom_0 : decode cX1_copyFrom 0 = .ok (.aload_n 0, 1) := by decide +kernel
theorem dX1_copyFrom_1 : decode cX1_copyFrom 1 = .ok (.getfield 10, 3) := by decide +kernel
theorem dX1_copyFrom_4 : decode cX1_copyFrom 4 = .ok (.aload_n 1, 1) := by decide +kernel
theorem dX1_copyFrom_5 : decode cX1_copyFrom 5 = .ok (.getfield 10, 3) := by decide +kernel
theorem dX1_copyFrom_8 : decode cX1_copyFrom 8 = .ok (.invokevirtual 22, 3) := by decide +kernel
theorem dX1_copyFrom_11 : decode cX1_copyFrom 11 = .ok (.aload_n 0, 1) := by decide +kernel
theorem dX1_copyFrom_12 : decode cX1_copyFrom 12 = .ok (.getfield 16, 3) := by decide +kernel
theorem dX1_copyFrom_15 : decode cX1_copyFrom 15 = .ok (.aload_n 1, 1) := by decide +kernel
theorem dX1_copyFrom_16 : decode cX1_copyFrom 16 = .ok (.getfield 16, 3) := by decide +kernel
theorem dX1_copyFrom_19 : decode cX1_copyFrom 19 = .ok (.invokevirtual 22, 3) := by decide +kernel
theorem dX1_copyFrom_22 : decode cX1_copyFrom 22 = .ok (.aload_n 0, 1) := by decide +kernel
theorem dX1_copyFrom_23 : decode cX1_copyFrom 23 = .ok (.getfield 19, 3) := by decide +kernel
theorem dX1_copyFrom_26 : decode cX1_copyFrom 26 = .ok (.aload_n 1, 1) := by decide +kernel
theorem dX1_copyFrom_27 : decode cX1_copyFrom 27 = .ok (.getfield 19, 3) := by decide +kernel
theorem dX1_copyFrom_30 : decode cX1_copyFrom 30 = .ok (.invokevirtual 22, 3) := by decide +kernel
theorem dX1_copyFrom_33 : decode cX1_copyFrom 33 = .ok (.aload_n 0, 1) := by decide +kernel
theorem dX1_copyFrom_34 : decode cX1_copyFrom 34 = .ok (.aload_n 1, 1) := by decide +kernel
theorem dX1_copyFrom_35 : decode cX1_copyFrom 35 = .ok (.getfield 26, 3) := by decide +kernel
theorem dX1_copyFrom_38 : decode cX1_copyFrom 38 = .ok (.putfield 26, 3) := by decide +kernel
theorem dX1_copyFrom_41 : decode cX1_copyFrom 41 = .ok (.aload_n 0, 1) := by decide +kernel
theorem dX1_copyFrom_42 : decode cX1_copyFrom 42 = .ok (.aload_n 1, 1) := by decide +kernel
theorem dX1_copyFrom_43 : decode cX1_copyFrom 43 = .ok (.getfield 30, 3) := by decide +kernel
theorem dX1_copyFrom_46 : decode cX1_copyFrom 46 = .ok (.putfield 30, 3) := by decide +kernel
theorem dX1_copyFrom_49 : decode cX1_copyFrom 49 = .ok (.return_, 1) := by decide +kernel
theorem dX2_init_0 : decode cX2_init 0 = .ok (.aload_n 0, 1) := by decide +kernel
theorem dX2_init_1 : decode cX2_init 1 = .ok (.invokespecial 1, 3) := by decide +kernel
theorem dX2_init_4 : decode cX2_init 4 = .ok (.return_, 1) := by decide +kernel
theorem dX2_copyFrom_0 : decode cX2_copyFrom 0 = .ok (.aload_n 0, 1) := by decide +kernel
theorem dX2_copyFrom_1 : decode cX2_copyFrom 1 = .ok (.aload_n 1, 1) := by decide +kernel
theorem dX2_copyFrom_2 : decode cX2_copyFrom 2 = .ok (.getfield 7, 3) := by decide +kernel
theorem dX2_copyFrom_5 : decode cX2_copyFrom 5 = .ok (.putfield 7, 3) := by decide +kernel
theorem dX2_copyFrom_8 : decode cX2_copyFrom 8 = .ok (.aload_n 0, 1) := by decide +kernel
theorem dX2_copyFrom_9 : decode cX2_copyFrom 9 = .ok (.aload_n 1, 1) := by decide +kernel
theorem dX2_copyFrom_10 : decode cX2_copyFrom 10 = .ok (.getfield 13, 3) := by decide +kernel
theorem dX2_copyFrom_13 : decode cX2_copyFrom 13 = .ok (.putfield 13, 3) := by decide +kernel
theorem dX2_copyFrom_16 : decode cX2_copyFrom 16 = .ok (.aload_n 0, 1) := by decide +kernel
theorem dX2_copyFrom_17 : decode cX2_copyFrom 17 = .ok (.aload_n 1, 1) := by decide +kernel
theorem dX2_copyFrom_18 : decode cX2_copyFrom 18 = .ok (.getfield 16, 3) := by decide +kernel
theorem dX2_copyFrom_21 : decode cX2_copyFrom 21 = .ok (.putfield 16, 3) := by decide +kernel
theorem dX2_copyFrom_24 : decode cX2_copyFrom 24 = .ok (.aload_n 0, 1) := by decide +kernel
theorem dX2_copyFrom_25 : decode cX2_copyFrom 25 = .ok (.aload_n 1, 1) := by decide +kernel
theorem dX2_copyFrom_26 : decode cX2_copyFrom 26 = .ok (.getfield 19, 3) := by decide +kernel
theorem dX2_copyFrom_29 : decode cX2_copyFrom 29 = .ok (.putfield 19, 3) := by decide +kernel
theorem dX2_copyFrom_32 : decode cX2_copyFrom 32 = .ok (.return_, 1) := by decide +kernel
theorem dX4_init_0 : decode cX4_init 0 = .ok (.aload_n 0, 1) := by decide +kernel
theorem dX4_init_1 : decode cX4_init 1 = .ok (.invokespecial 1, 3) := by decide +kernel
theorem dX4_init_4 : decode cX4_init 4 = .ok (.aload_n 0, 1) := by decide +kernel
theorem dX4_init_5 : decode cX4_init 5 = .ok (.bipush 20, 2) := by decide +kernel
theorem dX4_init_7 : decode cX4_init 7 = .ok (.putfield 7, 3) := by decide +kernel
theorem dX4_init_10 : decode cX4_init 10 = .ok (.aload_n 0, 1) := by decide +kernel
theorem dX4_init_11 : decode cX4_init 11 = .ok (.iconst 1, 1) := by decide +kernel
theorem dX4_init_12 : decode cX4_init 12 = .ok (.putfield 13, 3) := by decide +kernel
theorem dX4_init_15 : decode cX4_init 15 = .ok (.return_, 1) := by decide +kernel
theorem dX4_copyFrom_0 : decode cX4_copyFrom 0 = .ok (.aload_n 0, 1) := by decide +kernel
theorem dX4_copyFrom_1 : decode cX4_copyFrom 1 = .ok (.aload_n 1, 1) := by decide +kernel
theorem dX4_copyFrom_2 : decode cX4_copyFrom 2 = .ok (.getfield 7, 3) := by decide +kernel
theorem dX4_copyFrom_5 : decode cX4_copyFrom 5 = .ok (.putfield 7, 3) := by decide +kernel
theorem dX4_copyFrom_8 : decode cX4_copyFrom 8 = .ok (.aload_n 0, 1) := by decide +kernel
theorem dX4_copyFrom_9 : decode cX4_copyFrom 9 = .ok (.aload_n 1, 1) := by decide +kernel
theorem dX4_copyFrom_10 : decode cX4_copyFrom 10 = .ok (.getfield 13, 3) := by decide +kernel
theorem dX4_copyFrom_13 : decode cX4_copyFrom 13 = .ok (.putfield 13, 3) := by decide +kernel
theorem dX4_copyFrom_16 : decode cX4_copyFrom 16 = .ok (.aload_n 0, 1) := by decide +kernel
theorem dX4_copyFrom_17 : decode cX4_copyFrom 17 = .ok (.aload_n 1, 1) := by decide +kernel
theorem dX4_copyFrom_18 : decode cX4_copyFrom 18 = .ok (.getfield 17, 3) := by decide +kernel
theorem dX4_copyFrom_21 : decode cX4_copyFrom 21 = .ok (.putfield 17, 3) := by decide +kernel
theorem dX4_copyFrom_24 : decode cX4_copyFrom 24 = .ok (.aload_n 0, 1) := by decide +kernel
theorem dX4_copyFrom_25 : decode cX4_copyFrom 25 = .ok (.aload_n 1, 1) := by decide +kernel
theorem dX4_copyFrom_26 : decode cX4_copyFrom 26 = .ok (.getfield 20, 3) := by decide +kernel
theorem dX4_copyFrom_29 : decode cX4_copyFrom 29 = .ok (.putfield 20, 3) := by decide +kernel
theorem dX4_copyFrom_32 : decode cX4_copyFrom 32 = .ok (.aload_n 0, 1) := by decide +kernel
theorem dX4_copyFrom_33 : decode cX4_copyFrom 33 = .ok (.aload_n 1, 1) := by decide +kernel
theorem dX4_copyFrom_34 : decode cX4_copyFrom 34 = .ok (.getfield 23, 3) := by decide +kernel
theorem dX4_copyFrom_37 : decode cX4_copyFrom 37 = .ok (.putfield 23, 3) := by decide +kernel
theorem dX4_copyFrom_40 : decode cX4_copyFrom 40 = .ok (.aload_n 0, 1) := by decide +kernel
theorem dX4_copyFrom_41 : decode cX4_copyFrom 41 = .ok (.aload_n 1, 1) := by decide +kernel
theorem dX4_copyFrom_42 : decode cX4_copyFrom 42 = .ok (.getfield 26, 3) := by decide +kernel
theorem dX4_copyFrom_45 : decode cX4_copyFrom 45 = .ok (.putfield 26, 3) := by decide +kernel
theorem dX4_copyFrom_48 : decode cX4_copyFrom 48 = .ok (.return_, 1) := by decide +kernel
theorem dX5_init_0 : decode cX5_init 0 = .ok (.aload_n 0, 1) := by decide +kernel
theorem dX5_init_1 : decode cX5_init 1 = .ok (.invokespecial 1, 3) := by decide +kernel
theorem dX5_init_4 : decode cX5_init 4 = .ok (.return_, 1) := by decide +kernel
theorem dX5_copyFrom_0 : decode cX5_copyFrom 0 = .ok (.aload_n 0, 1) := by decide +kernel
theorem dX5_copyFrom_1 : decode cX5_copyFrom 1 = .ok (.aload_n 1, 1) := by decide +kernel
theorem dX5_copyFrom_2 : decode cX5_copyFrom 2 = .ok (.getfield 7, 3) := by decide +kernel
theorem dX5_copyFrom_5 : decode cX5_copyFrom 5 = .ok (.putfield 7, 3) := by decide +kernel
theorem dX5_copyFrom_8 : decode cX5_copyFrom 8 = .ok (.aload_n 0, 1) := by decide +kernel
theorem dX5_copyFrom_9 : decode cX5_copyFrom 9 = .ok (.aload_n 1, 1) := by decide +kernel
theorem dX5_copyFrom_10 : decode cX5_copyFrom 10 = .ok (.getfield 13, 3) := by decide +kernel
theorem dX5_copyFrom_13 : decode cX5_copyFrom 13 = .ok (.putfield 13, 3) := by decide +kernel
theorem dX5_copyFrom_16 : decode cX5_copyFrom 16 = .ok (.aload_n 0, 1) := by decide +kernel
theorem dX5_copyFrom_17 : decode cX5_copyFrom 17 = .ok (.aload_n 1, 1) := by decide +kernel
theorem dX5_copyFrom_18 : decode cX5_copyFrom 18 = .ok (.getfield 16, 3) := by decide +kernel
theorem dX5_copyFrom_21 : decode cX5_copyFrom 21 = .ok (.putfield 16, 3) := by decide +kernel
theorem dX5_copyFrom_24 : decode cX5_copyFrom 24 = .ok (.aload_n 0, 1) := by decide +kernel
theorem dX5_copyFrom_25 : decode cX5_copyFrom 25 = .ok (.aload_n 1, 1) := by decide +kernel
theorem dX5_copyFrom_26 : decode cX5_copyFrom 26 = .ok (.getfield 19, 3) := by decide +kernel
theorem dX5_copyFrom_29 : decode cX5_copyFrom 29 = .ok (.putfield 19, 3) := by decide +kernel
theorem dX5_copyFrom_32 : decode cX5_copyFrom 32 = .ok (.aload_n 0, 1) := by decide +kernel
theorem dX5_copyFrom_33 : decode cX5_copyFrom 33 = .ok (.aload_n 1, 1) := by decide +kernel
theorem dX5_copyFrom_34 : decode cX5_copyFrom 34 = .ok (.getfield 22, 3) := by decide +kernel
theorem dX5_copyFrom_37 : decode cX5_copyFrom 37 = .ok (.putfield 22, 3) := by decide +kernel
theorem dX5_copyFrom_40 : decode cX5_copyFrom 40 = .ok (.aload_n 0, 1) := by decide +kernel
theorem dX5_copyFrom_41 : decode cX5_copyFrom 41 = .ok (.aload_n 1, 1) := by decide +kernel
theorem dX5_copyFrom_42 : decode cX5_copyFrom 42 = .ok (.getfield 25, 3) := by decide +kernel
theorem dX5_copyFrom_45 : decode cX5_copyFrom 45 = .ok (.putfield 25, 3) := by decide +kernel
theorem dX5_copyFrom_48 : decode cX5_copyFrom 48 = .ok (.aload_n 0, 1) := by decide +kernel
theorem dX5_copyFrom_49 : decode cX5_copyFrom 49 = .ok (.aload_n 1, 1) := by decide +kernel
theorem dX5_copyFrom_50 : decode cX5_copyFrom 50 = .ok (.getfield 28, 3) := by decide +kernel
theorem dX5_copyFrom_53 : decode cX5_copyFrom 53 = .ok (.putfield 28, 3) := by decide +kernel
theorem dX5_copyFrom_56 : decode cX5_copyFrom 56 = .ok (.return_, 1) := by decide +kernel
theorem dX5_note_0 : decode cX5_note 0 = .ok (.aload_n 0, 1) := by decide +kernel
theorem dX5_note_1 : decode cX5_note 1 = .ok (.iload_n 1, 1) := by decide +kernel
theorem dX5_note_2 : decode cX5_note 2 = .ok (.putfield 19, 3) := by decide +kernel
theorem dX5_note_5 : decode cX5_note 5 = .ok (.aload_n 0, 1) := by decide +kernel
theorem dX5_note_6 : decode cX5_note 6 = .ok (.aload_n 0, 1) := by decide +kernel
theorem dX5_note_7 : decode cX5_note 7 = .ok (.getfield 16, 3) := by decide +kernel
theorem dX5_note_10 : decode cX5_note 10 = .ok (.iload_n 1, 1) := by decide +kernel
theorem dX5_note_11 : decode cX5_note 11 = .ok (.isub, 1) := by decide +kernel
theorem dX5_note_12 : decode cX5_note 12 = .ok (.iconst 0, 1) := by decide +kernel
theorem dX5_note_13 : decode cX5_note 13 = .ok (.invokestatic 31, 3) := by decide +kernel
theorem dX5_note_16 : decode cX5_note 16 = .ok (.putfield 22, 3) := by decide +kernel
theorem dX5_note_19 : decode cX5_note 19 = .ok (.aload_n 0, 1) := by decide +kernel
theorem dX5_note_20 : decode cX5_note 20 = .ok (.dup, 1) := by decide +kernel
theorem dX5_note_21 : decode cX5_note 21 = .ok (.getfield 25, 3) := by decide +kernel
theorem dX5_note_24 : decode cX5_note 24 = .ok (.aload_n 0, 1) := by decide +kernel
theorem dX5_note_25 : decode cX5_note 25 = .ok (.getfield 19, 3) := by decide +kernel
theorem dX5_note_28 : decode cX5_note 28 = .ok (.iadd, 1) := by decide +kernel
theorem dX5_note_29 : decode cX5_note 29 = .ok (.putfield 25, 3) := by decide +kernel
theorem dX5_note_32 : decode cX5_note 32 = .ok (.aload_n 0, 1) := by decide +kernel
theorem dX5_note_33 : decode cX5_note 33 = .ok (.dup, 1) := by decide +kernel
theorem dX5_note_34 : decode cX5_note 34 = .ok (.getfield 28, 3) := by decide +kernel
theorem dX5_note_37 : decode cX5_note 37 = .ok (.aload_n 0, 1) := by decide +kernel
theorem dX5_note_38 : decode cX5_note 38 = .ok (.getfield 22, 3) := by decide +kernel
theorem dX5_note_41 : decode cX5_note 41 = .ok (.iadd, 1) := by decide +kernel
theorem dX5_note_42 : decode cX5_note 42 = .ok (.putfield 28, 3) := by decide +kernel
theorem dX5_note_45 : decode cX5_note 45 = .ok (.return_, 1) := by decide +kernel
theorem dX6_init_0 : decode cX6_init 0 = .ok (.aload_n 0, 1) := by decide +kernel
theorem dX6_init_1 : decode cX6_init 1 = .ok (.invokespecial 1, 3) := by decide +kernel
theorem dX6_init_4 : decode cX6_init 4 = .ok (.return_, 1) := by decide +kernel
theorem dX6_copyFrom_0 : decode cX6_copyFrom 0 = .ok (.aload_n 0, 1) := by decide +kernel
theorem dX6_copyFrom_1 : decode cX6_copyFrom 1 = .ok (.aload_n 1, 1) := by decide +kernel
theorem dX6_copyFrom_2 : decode cX6_copyFrom 2 = .ok (.getfield 7, 3) := by decide +kernel
theorem dX6_copyFrom_5 : decode cX6_copyFrom 5 = .ok (.putfield 7, 3) := by decide +kernel
theorem dX6_copyFrom_8 : decode cX6_copyFrom 8 = .ok (.aload_n 0, 1) := by decide +kernel
theorem dX6_copyFrom_9 : decode cX6_copyFrom 9 = .ok (.aload_n 1, 1) := by decide +kernel
theorem dX6_copyFrom_10 : decode cX6_copyFrom 10 = .ok (.getfield 13, 3) := by decide +kernel
theorem dX6_copyFrom_13 : decode cX6_copyFrom 13 = .ok (.putfield 13, 3) := by decide +kernel
theorem dX6_copyFrom_16 : decode cX6_copyFrom 16 = .ok (.aload_n 0, 1) := by decide +kernel
theorem dX6_copyFrom_17 : decode cX6_copyFrom 17 = .ok (.aload_n 1, 1) := by decide +kernel
theorem dX6_copyFrom_18 : decode cX6_copyFrom 18 = .ok (.getfield 16, 3) := by decide +kernel
theorem dX6_copyFrom_21 : decode cX6_copyFrom 21 = .ok (.putfield 16, 3) := by decide +kernel
theorem dX6_copyFrom_24 : decode cX6_copyFrom 24 = .ok (.aload_n 0, 1) := by decide +kernel
theorem dX6_copyFrom_25 : decode cX6_copyFrom 25 = .ok (.aload_n 1, 1) := by decide +kernel
theorem dX6_copyFrom_26 : decode cX6_copyFrom 26 = .ok (.getfield 19, 3) := by decide +kernel
theorem dX6_copyFrom_29 : decode cX6_copyFrom 29 = .ok (.putfield 19, 3) := by decide +kernel
theorem dX6_copyFrom_32 : decode cX6_copyFrom 32 = .ok (.return_, 1) := by decide +kernel
theorem dX6_add_0 : decode cX6_add 0 = .ok (.aload_n 0, 1) := by decide +kernel
theorem dX6_add_1 : decode cX6_add 1 = .ok (.dup, 1) := by decide +kernel
theorem dX6_add_2 : decode cX6_add 2 = .ok (.getfield 7, 3) := by decide +kernel
theorem dX6_add_5 : decode cX6_add 5 = .ok (.aload_n 1, 1) := by decide +kernel
theorem dX6_add_6 : decode cX6_add 6 = .ok (.getfield 7, 3) := by decide +kernel
theorem dX6_add_9 : decode cX6_add 9 = .ok (.iadd, 1) := by decide +kernel
theorem dX6_add_10 : decode cX6_add 10 = .ok (.putfield 7, 3) := by decide +kernel
theorem dX6_add_13 : decode cX6_add 13 = .ok (.aload_n 0, 1) := by decide +kernel
theorem dX6_add_14 : decode cX6_add 14 = .ok (.dup, 1) := by decide +kernel
theorem dX6_add_15 : decode cX6_add 15 = .ok (.getfield 13, 3) := by decide +kernel
theorem dX6_add_18 : decode cX6_add 18 = .ok (.aload_n 1, 1) := by decide +kernel
theorem dX6_add_19 : decode cX6_add 19 = .ok (.getfield 13, 3) := by decide +kernel
theorem dX6_add_22 : decode cX6_add 22 = .ok (.iadd, 1) := by decide +kernel
theorem dX6_add_23 : decode cX6_add 23 = .ok (.putfield 13, 3) := by decide +kernel
theorem dX6_add_26 : decode cX6_add 26 = .ok (.aload_n 0, 1) := by decide +kernel
theorem dX6_add_27 : decode cX6_add 27 = .ok (.dup, 1) := by decide +kernel
theorem dX6_add_28 : decode cX6_add 28 = .ok (.getfield 16, 3) := by decide +kernel
theorem dX6_add_31 : decode cX6_add 31 = .ok (.aload_n 1, 1) := by decide +kernel
theorem dX6_add_32 : decode cX6_add 32 = .ok (.getfield 16, 3) := by decide +kernel
theorem dX6_add_35 : decode cX6_add 35 = .ok (.iadd, 1) := by decide +kernel
theorem dX6_add_36 : decode cX6_add 36 = .ok (.putfield 16, 3) := by decide +kernel
theorem dX6_add_39 : decode cX6_add 39 = .ok (.aload_n 0, 1) := by decide +kernel
theorem dX6_add_40 : decode cX6_add 40 = .ok (.dup, 1) := by decide +kernel
theorem dX6_add_41 : decode cX6_add 41 = .ok (.getfield 19, 3) := by decide +kernel
theorem dX6_add_44 : decode cX6_add 44 = .ok (.aload_n 1, 1) := by decide +kernel
theorem dX6_add_45 : decode cX6_add 45 = .ok (.getfield 19, 3) := by decide +kernel
theorem dX6_add_48 : decode cX6_add 48 = .ok (.iadd, 1) := by decide +kernel
theorem dX6_add_49 : decode cX6_add 49 = .ok (.putfield 19, 3) := by decide +kernel
theorem dX6_add_52 : decode cX6_add 52 = .ok (.return_, 1) := by decide +kernel
theorem dX6_remove_0 : decode cX6_remove 0 = .ok (.aload_n 0, 1) := by decide +kernel
theorem dX6_remove_1 : decode cX6_remove 1 = .ok (.dup, 1) := by decide +kernel
theorem dX6_remove_2 : decode cX6_remove 2 = .ok (.getfield 7, 3) := by decide +kernel
theorem dX6_remove_5 : decode cX6_remove 5 = .ok (.aload_n 1, 1) := by decide +kernel
theorem dX6_remove_6 : decode cX6_remove 6 = .ok (.getfield 7, 3) := by decide +kernel
theorem dX6_remove_9 : decode cX6_remove 9 = .ok (.isub, 1) := by decide +kernel
theorem dX6_remove_10 : decode cX6_remove 10 = .ok (.putfield 7, 3) := by decide +kernel
theorem dX6_remove_13 : decode cX6_remove 13 = .ok (.aload_n 0, 1) := by decide +kernel
theorem dX6_remove_14 : decode cX6_remove 14 = .ok (.dup, 1) := by decide +kernel
theorem dX6_remove_15 : decode cX6_remove 15 = .ok (.getfield 13, 3) := by decide +kernel
theorem dX6_remove_18 : decode cX6_remove 18 = .ok (.aload_n 1, 1) := by decide +kernel
theorem dX6_remove_19 : decode cX6_remove 19 = .ok (.getfield 13, 3) := by decide +kernel
theorem dX6_remove_22 : decode cX6_remove 22 = .ok (.isub, 1) := by decide +kernel
theorem dX6_remove_23 : decode cX6_remove 23 = .ok (.putfield 13, 3) := by decide +kernel
theorem dX6_remove_26 : decode cX6_remove 26 = .ok (.aload_n 0, 1) := by decide +kernel
theorem dX6_remove_27 : decode cX6_remove 27 = .ok (.dup, 1) := by decide +kernel
theorem dX6_remove_28 : decode cX6_remove 28 = .ok (.getfield 16, 3) := by decide +kernel
theorem dX6_remove_31 : decode cX6_remove 31 = .ok (.aload_n 1, 1) := by decide +kernel
theorem dX6_remove_32 : decode cX6_remove 32 = .ok (.getfield 16, 3) := by decide +kernel
theorem dX6_remove_35 : decode cX6_remove 35 = .ok (.isub, 1) := by decide +kernel
theorem dX6_remove_36 : decode cX6_remove 36 = .ok (.putfield 16, 3) := by decide +kernel
theorem dX6_remove_39 : decode cX6_remove 39 = .ok (.aload_n 0, 1) := by decide +kernel
theorem dX6_remove_40 : decode cX6_remove 40 = .ok (.dup, 1) := by decide +kernel
theorem dX6_remove_41 : decode cX6_remove 41 = .ok (.getfield 19, 3) := by decide +kernel
theorem dX6_remove_44 : decode cX6_remove 44 = .ok (.aload_n 1, 1) := by decide +kernel
theorem dX6_remove_45 : decode cX6_remove 45 = .ok (.getfield 19, 3) := by decide +kernel
theorem dX6_remove_48 : decode cX6_remove 48 = .ok (.isub, 1) := by decide +kernel
theorem dX6_remove_49 : decode cX6_remove 49 = .ok (.putfield 19, 3) := by decide +kernel
theorem dX6_remove_52 : decode cX6_remove 52 = .ok (.return_, 1) := by decide +kernel
theorem dX6_part_0 : decode cX6_part 0 = .ok (.iload_n 1, 1) := by decide +kernel
theorem dX6_part_1 : decode cX6_part 1 = .ok (.tableswitch 42 0 2 #[27, 32, 37], 27) := by decide +kernel
theorem dX6_part_28 : decode cX6_part 28 = .ok (.aload_n 0, 1) := by decide +kernel
theorem dX6_part_29 : decode cX6_part 29 = .ok (.getfield 7, 3) := by decide +kernel
theorem dX6_part_32 : decode cX6_part 32 = .ok (.ireturn, 1) := by decide +kernel
theorem dX6_part_33 : decode cX6_part 33 = .ok (.aload_n 0, 1) := by decide +kernel
theorem dX6_part_34 : decode cX6_part 34 = .ok (.getfield 13, 3) := by decide +kernel
theorem dX6_part_37 : decode cX6_part 37 = .ok (.ireturn, 1) := by decide +kernel
theorem dX6_part_38 : decode cX6_part 38 = .ok (.aload_n 0, 1) := by decide +kernel
theorem dX6_part_39 : decode cX6_part 39 = .ok (.getfield 16, 3) := by decide +kernel
theorem dX6_part_42 : decode cX6_part 42 = .ok (.ireturn, 1) := by decide +kernel
theorem dX6_part_43 : decode cX6_part 43 = .ok (.aload_n 0, 1) := by decide +kernel
theorem dX6_part_44 : decode cX6_part 44 = .ok (.getfield 19, 3) := by decide +kernel
theorem dX6_part_47 : decode cX6_part 47 = .ok (.ireturn, 1) := by decide +kernel
theorem dX6_shareOf_0 : decode cX6_shareOf 0 = .ok (.aload_n 0, 1) := by decide +kernel
theorem dX6_shareOf_1 : decode cX6_shareOf 1 = .ok (.getfield 7, 3) := by decide +kernel
theorem dX6_shareOf_4 : decode cX6_shareOf 4 = .ok (.ifCond .le 18, 3) := by decide +kernel
theorem dX6_shareOf_7 : decode cX6_shareOf 7 = .ok (.iload_n 2, 1) := by decide +kernel
theorem dX6_shareOf_8 : decode cX6_shareOf 8 = .ok (.i2l, 1) := by decide +kernel
theorem dX6_shareOf_9 : decode cX6_shareOf 9 = .ok (.iload_n 1, 1) := by decide +kernel
theorem dX6_shareOf_10 : decode cX6_shareOf 10 = .ok (.i2l, 1) := by decide +kernel
theorem dX6_shareOf_11 : decode cX6_shareOf 11 = .ok (.lmul, 1) := by decide +kernel
theorem dX6_shareOf_12 : decode cX6_shareOf 12 = .ok (.aload_n 0, 1) := by decide +kernel
theorem dX6_shareOf_13 : decode cX6_shareOf 13 = .ok (.getfield 7, 3) := by decide +kernel
theorem dX6_shareOf_16 : decode cX6_shareOf 16 = .ok (.i2l, 1) := by decide +kernel
theorem dX6_shareOf_17 : decode cX6_shareOf 17 = .ok (.ldiv, 1) := by decide +kernel
theorem dX6_shareOf_18 : decode cX6_shareOf 18 = .ok (.l2i, 1) := by decide +kernel
theorem dX6_shareOf_19 : decode cX6_shareOf 19 = .ok (.goto 4, 3) := by decide +kernel
theorem dX6_shareOf_22 : decode cX6_shareOf 22 = .ok (.iconst 0, 1) := by decide +kernel
theorem dX6_shareOf_23 : decode cX6_shareOf 23 = .ok (.ireturn, 1) := by decide +kernel
theorem dX7_init_0 : decode cX7_init 0 = .ok (.aload_n 0, 1) := by decide +kernel
theorem dX7_init_1 : decode cX7_init 1 = .ok (.invokespecial 3, 3) := by decide +kernel
theorem dX7_init_4 : decode cX7_init 4 = .ok (.return_, 1) := by decide +kernel
theorem dX7_copyFrom_0 : decode cX7_copyFrom 0 = .ok (.aload_n 0, 1) := by decide +kernel
theorem dX7_copyFrom_1 : decode cX7_copyFrom 1 = .ok (.aload_n 1, 1) := by decide +kernel
theorem dX7_copyFrom_2 : decode cX7_copyFrom 2 = .ok (.getfield 9, 3) := by decide +kernel
theorem dX7_copyFrom_5 : decode cX7_copyFrom 5 = .ok (.putfield 9, 3) := by decide +kernel
theorem dX7_copyFrom_8 : decode cX7_copyFrom 8 = .ok (.aload_n 0, 1) := by decide +kernel
theorem dX7_copyFrom_9 : decode cX7_copyFrom 9 = .ok (.aload_n 1, 1) := by decide +kernel
theorem dX7_copyFrom_10 : decode cX7_copyFrom 10 = .ok (.getfield 15, 3) := by decide +kernel
theorem dX7_copyFrom_13 : decode cX7_copyFrom 13 = .ok (.putfield 15, 3) := by decide +kernel
theorem dX7_copyFrom_16 : decode cX7_copyFrom 16 = .ok (.aload_n 0, 1) := by decide +kernel
theorem dX7_copyFrom_17 : decode cX7_copyFrom 17 = .ok (.aload_n 1, 1) := by decide +kernel
theorem dX7_copyFrom_18 : decode cX7_copyFrom 18 = .ok (.getfield 19, 3) := by decide +kernel
theorem dX7_copyFrom_21 : decode cX7_copyFrom 21 = .ok (.putfield 19, 3) := by decide +kernel
theorem dX7_copyFrom_24 : decode cX7_copyFrom 24 = .ok (.aload_n 0, 1) := by decide +kernel
theorem dX7_copyFrom_25 : decode cX7_copyFrom 25 = .ok (.aload_n 1, 1) := by decide +kernel
theorem dX7_copyFrom_26 : decode cX7_copyFrom 26 = .ok (.getfield 22, 3) := by decide +kernel
theorem dX7_copyFrom_29 : decode cX7_copyFrom 29 = .ok (.putfield 22, 3) := by decide +kernel
theorem dX7_copyFrom_32 : decode cX7_copyFrom 32 = .ok (.aload_n 0, 1) := by decide +kernel
theorem dX7_copyFrom_33 : decode cX7_copyFrom 33 = .ok (.aload_n 1, 1) := by decide +kernel
theorem dX7_copyFrom_34 : decode cX7_copyFrom 34 = .ok (.getfield 25, 3) := by decide +kernel
theorem dX7_copyFrom_37 : decode cX7_copyFrom 37 = .ok (.putfield 25, 3) := by decide +kernel
theorem dX7_copyFrom_40 : decode cX7_copyFrom 40 = .ok (.aload_n 0, 1) := by decide +kernel
theorem dX7_copyFrom_41 : decode cX7_copyFrom 41 = .ok (.aload_n 1, 1) := by decide +kernel
theorem dX7_copyFrom_42 : decode cX7_copyFrom 42 = .ok (.getfield 28, 3) := by decide +kernel
theorem dX7_copyFrom_45 : decode cX7_copyFrom 45 = .ok (.putfield 28, 3) := by decide +kernel
theorem dX7_copyFrom_48 : decode cX7_copyFrom 48 = .ok (.aload_n 0, 1) := by decide +kernel
theorem dX7_copyFrom_49 : decode cX7_copyFrom 49 = .ok (.aload_n 1, 1) := by decide +kernel
theorem dX7_copyFrom_50 : decode cX7_copyFrom 50 = .ok (.getfield 31, 3) := by decide +kernel
theorem dX7_copyFrom_53 : decode cX7_copyFrom 53 = .ok (.putfield 31, 3) := by decide +kernel
theorem dX7_copyFrom_56 : decode cX7_copyFrom 56 = .ok (.aload_n 0, 1) := by decide +kernel
theorem dX7_copyFrom_57 : decode cX7_copyFrom 57 = .ok (.aload_n 1, 1) := by decide +kernel
theorem dX7_copyFrom_58 : decode cX7_copyFrom 58 = .ok (.getfield 34, 3) := by decide +kernel
theorem dX7_copyFrom_61 : decode cX7_copyFrom 61 = .ok (.putfield 34, 3) := by decide +kernel
theorem dX7_copyFrom_64 : decode cX7_copyFrom 64 = .ok (.aload_n 0, 1) := by decide +kernel
theorem dX7_copyFrom_65 : decode cX7_copyFrom 65 = .ok (.aload_n 1, 1) := by decide +kernel
theorem dX7_copyFrom_66 : decode cX7_copyFrom 66 = .ok (.getfield 37, 3) := by decide +kernel
theorem dX7_copyFrom_69 : decode cX7_copyFrom 69 = .ok (.putfield 37, 3) := by decide +kernel
theorem dX7_copyFrom_72 : decode cX7_copyFrom 72 = .ok (.return_, 1) := by decide +kernel
theorem dX7_note_0 : decode cX7_note 0 = .ok (.aload_n 0, 1) := by decide +kernel
theorem dX7_note_1 : decode cX7_note 1 = .ok (.aload_n 1, 1) := by decide +kernel
theorem dX7_note_2 : decode cX7_note 2 = .ok (.getfield 40, 3) := by decide +kernel
theorem dX7_note_5 : decode cX7_note 5 = .ok (.putfield 28, 3) := by decide +kernel
theorem dX7_note_8 : decode cX7_note 8 = .ok (.aload_n 0, 1) := by decide +kernel
theorem dX7_note_9 : decode cX7_note 9 = .ok (.iload_n 2, 1) := by decide +kernel
theorem dX7_note_10 : decode cX7_note 10 = .ok (.putfield 31, 3) := by decide +kernel
theorem dX7_note_13 : decode cX7_note 13 = .ok (.aload_n 0, 1) := by decide +kernel
theorem dX7_note_14 : decode cX7_note 14 = .ok (.aload_n 1, 1) := by decide +kernel
theorem dX7_note_15 : decode cX7_note 15 = .ok (.getfield 45, 3) := by decide +kernel
theorem dX7_note_18 : decode cX7_note 18 = .ok (.putfield 34, 3) := by decide +kernel
theorem dX7_note_21 : decode cX7_note 21 = .ok (.aload_n 0, 1) := by decide +kernel
theorem dX7_note_22 : decode cX7_note 22 = .ok (.dup, 1) := by decide +kernel
theorem dX7_note_23 : decode cX7_note 23 = .ok (.getfield 37, 3) := by decide +kernel
theorem dX7_note_26 : decode cX7_note 26 = .ok (.aload_n 1, 1) := by decide +kernel
theorem dX7_note_27 : decode cX7_note 27 = .ok (.getfield 40, 3) := by decide +kernel
theorem dX7_note_30 : decode cX7_note 30 = .ok (.iadd, 1) := by decide +kernel
theorem dX7_note_31 : decode cX7_note 31 = .ok (.putfield 37, 3) := by decide +kernel
theorem dX7_note_34 : decode cX7_note 34 = .ok (.return_, 1) := by decide +kernel
theorem dX7_growCrust_0 : decode cX7_growCrust 0 = .ok (.aload_n 0, 1) := by decide +kernel
theorem dX7_growCrust_1 : decode cX7_growCrust 1 = .ok (.dup, 1) := by decide +kernel
theorem dX7_growCrust_2 : decode cX7_growCrust 2 = .ok (.getfield 25, 3) := by decide +kernel
theorem dX7_growCrust_5 : decode cX7_growCrust 5 = .ok (.iconst 1, 1) := by decide +kernel
theorem dX7_growCrust_6 : decode cX7_growCrust 6 = .ok (.iadd, 1) := by decide +kernel
theorem dX7_growCrust_7 : decode cX7_growCrust 7 = .ok (.putfield 25, 3) := by decide +kernel
theorem dX7_growCrust_10 : decode cX7_growCrust 10 = .ok (.aload_n 0, 1) := by decide +kernel
theorem dX7_growCrust_11 : decode cX7_growCrust 11 = .ok (.getfield 25, 3) := by decide +kernel
theorem dX7_growCrust_14 : decode cX7_growCrust 14 = .ok (.iconst 5, 1) := by decide +kernel
theorem dX7_growCrust_15 : decode cX7_growCrust 15 = .ok (.if_icmp .lt 23, 3) := by decide +kernel
theorem dX7_growCrust_18 : decode cX7_growCrust 18 = .ok (.aload_n 0, 1) := by decide +kernel
theorem dX7_growCrust_19 : decode cX7_growCrust 19 = .ok (.iconst 0, 1) := by decide +kernel
theorem dX7_growCrust_20 : decode cX7_growCrust 20 = .ok (.putfield 25, 3) := by decide +kernel
theorem dX7_growCrust_23 : decode cX7_growCrust 23 = .ok (.aload_n 0, 1) := by decide +kernel
theorem dX7_growCrust_24 : decode cX7_growCrust 24 = .ok (.aload_n 0, 1) := by decide +kernel
theorem dX7_growCrust_25 : decode cX7_growCrust 25 = .ok (.getfield 22, 3) := by decide +kernel
theorem dX7_growCrust_28 : decode cX7_growCrust 28 = .ok (.iconst 1, 1) := by decide +kernel
theorem dX7_growCrust_29 : decode cX7_growCrust 29 = .ok (.iadd, 1) := by decide +kernel
theorem dX7_growCrust_30 : decode cX7_growCrust 30 = .ok (.bipush 9, 2) := by decide +kernel
theorem dX7_growCrust_32 : decode cX7_growCrust 32 = .ok (.invokestatic 46, 3) := by decide +kernel
theorem dX7_growCrust_35 : decode cX7_growCrust 35 = .ok (.putfield 22, 3) := by decide +kernel
theorem dX7_growCrust_38 : decode cX7_growCrust 38 = .ok (.return_, 1) := by decide +kernel
theorem dJ9_abs_0f7a4_0 : decode cJ9_abs_0f7a4 0 = .ok (.iload_n 0, 1) := by decide +kernel
theorem dJ9_abs_0f7a4_1 : decode cJ9_abs_0f7a4 1 = .ok (.ifCond .ge 8, 3) := by decide +kernel
theorem dJ9_abs_0f7a4_4 : decode cJ9_abs_0f7a4 4 = .ok (.iload_n 0, 1) := by decide +kernel
theorem dJ9_abs_0f7a4_5 : decode cJ9_abs_0f7a4 5 = .ok (.ineg, 1) := by decide +kernel
theorem dJ9_abs_0f7a4_6 : decode cJ9_abs_0f7a4 6 = .ok (.goto 4, 3) := by decide +kernel
theorem dJ9_abs_0f7a4_9 : decode cJ9_abs_0f7a4 9 = .ok (.iload_n 0, 1) := by decide +kernel
theorem dJ9_abs_0f7a4_10 : decode cJ9_abs_0f7a4 10 = .ok (.ireturn, 1) := by decide +kernel
theorem dJ9_max_7cf53_0 : decode cJ9_max_7cf53 0 = .ok (.iload_n 0, 1) := by decide +kernel
theorem dJ9_max_7cf53_1 : decode cJ9_max_7cf53 1 = .ok (.iload_n 1, 1) := by decide +kernel
theorem dJ9_max_7cf53_2 : decode cJ9_max_7cf53 2 = .ok (.if_icmp .lt 7, 3) := by decide +kernel
theorem dJ9_max_7cf53_5 : decode cJ9_max_7cf53 5 = .ok (.iload_n 0, 1) := by decide +kernel
theorem dJ9_max_7cf53_6 : decode cJ9_max_7cf53 6 = .ok (.goto 4, 3) := by decide +kernel
theorem dJ9_max_7cf53_9 : decode cJ9_max_7cf53 9 = .ok (.iload_n 1, 1) := by decide +kernel
theorem dJ9_max_7cf53_10 : decode cJ9_max_7cf53 10 = .ok (.ireturn, 1) := by decide +kernel
theorem dJ9_min_7cf53_0 : decode cJ9_min_7cf53 0 = .ok (.iload_n 0, 1) := by decide +kernel
theorem dJ9_min_7cf53_1 : decode cJ9_min_7cf53 1 = .ok (.iload_n 1, 1) := by decide +kernel
theorem dJ9_min_7cf53_2 : decode cJ9_min_7cf53 2 = .ok (.if_icmp .gt 7, 3) := by decide +kernel
theorem dJ9_min_7cf53_5 : decode cJ9_min_7cf53 5 = .ok (.iload_n 0, 1) := by decide +kernel
theorem dJ9_min_7cf53_6 : decode cJ9_min_7cf53 6 = .ok (.goto 4, 3) := by decide +kernel
theorem dJ9_min_7cf53_9 : decode cJ9_min_7cf53 9 = .ok (.iload_n 1, 1) := by decide +kernel
theorem dJ9_min_7cf53_10 : decode cJ9_min_7cf53 10 = .ok (.ireturn, 1) := by decide +kernel
end
section
theorem dX3_init_0 : decode cX3_init 0 = .ok (.aload_n 0, 1) := by decide +kernel
theorem dX3_init_1 : decode cX3_init 1 = .ok (.invokespecial 3, 3) := by decide +kernel
theorem dX3_init_4 : decode cX3_init 4 = .ok (.aload_n 0, 1) := by decide +kernel
theorem dX3_init_5 : decode cX3_init 5 = .ok (.bipush 8, 2) := by decide +kernel
theorem dX3_init_7 : decode cX3_init 7 = .ok (.anewarray 9, 3) := by decide +kernel
theorem dX3_init_10 : decode cX3_init 10 = .ok (.putfield 11, 3) := by decide +kernel
theorem dX3_init_13 : decode cX3_init 13 = .ok (.aload_n 0, 1) := by decide +kernel
theorem dX3_init_14 : decode cX3_init 14 = .ok (.bipush 12, 2) := by decide +kernel
theorem dX3_init_16 : decode cX3_init 16 = .ok (.anewarray 17, 3) := by decide +kernel
theorem dX3_init_19 : decode cX3_init 19 = .ok (.putfield 19, 3) := by decide +kernel
theorem dX3_init_22 : decode cX3_init 22 = .ok (.aload_n 0, 1) := by decide +kernel
theorem dX3_init_23 : decode cX3_init 23 = .ok (.bipush 6, 2) := by decide +kernel
theorem dX3_init_25 : decode cX3_init 25 = .ok (.anewarray 23, 3) := by decide +kernel
theorem dX3_init_28 : decode cX3_init 28 = .ok (.putfield 25, 3) := by decide +kernel
theorem dX3_init_31 : decode cX3_init 31 = .ok (.aload_n 0, 1) := by decide +kernel
theorem dX3_init_32 : decode cX3_init 32 = .ok (.iconst 3, 1) := by decide +kernel
theorem dX3_init_33 : decode cX3_init 33 = .ok (.anewarray 29, 3) := by decide +kernel
theorem dX3_init_36 : decode cX3_init 36 = .ok (.putfield 31, 3) := by decide +kernel
theorem dX3_init_39 : decode cX3_init 39 = .ok (.aload_n 0, 1) := by decide +kernel
theorem dX3_init_40 : decode cX3_init 40 = .ok (.new 35, 3) := by decide +kernel
theorem dX3_init_43 : decode cX3_init 43 = .ok (.dup, 1) := by decide +kernel
theorem dX3_init_44 : decode cX3_init 44 = .ok (.invokespecial 37, 3) := by decide +kernel
theorem dX3_init_47 : decode cX3_init 47 = .ok (.putfield 38, 3) := by decide +kernel
theorem dX3_init_50 : decode cX3_init 50 = .ok (.aload_n 0, 1) := by decide +kernel
theorem dX3_init_51 : decode cX3_init 51 = .ok (.new 42, 3) := by decide +kernel
theorem dX3_init_54 : decode cX3_init 54 = .ok (.dup, 1) := by decide +kernel
theorem dX3_init_55 : decode cX3_init 55 = .ok (.invokespecial 44, 3) := by decide +kernel
theorem dX3_init_58 : decode cX3_init 58 = .ok (.putfield 45, 3) := by decide +kernel
theorem dX3_init_61 : decode cX3_init 61 = .ok (.aload_n 0, 1) := by decide +kernel
theorem dX3_init_62 : decode cX3_init 62 = .ok (.new 49, 3) := by decide +kernel
theorem dX3_init_65 : decode cX3_init 65 = .ok (.dup, 1) := by decide +kernel
theorem dX3_init_66 : decode cX3_init 66 = .ok (.invokespecial 51, 3) := by decide +kernel
theorem dX3_init_69 : decode cX3_init 69 = .ok (.putfield 52, 3) := by decide +kernel
theorem dX3_init_72 : decode cX3_init 72 = .ok (.aload_n 0, 1) := by decide +kernel
theorem dX3_init_73 : decode cX3_init 73 = .ok (.iconst 2, 1) := by decide +kernel
theorem dX3_init_74 : decode cX3_init 74 = .ok (.newarray .int, 2) := by decide +kernel
theorem dX3_init_76 : decode cX3_init 76 = .ok (.putfield 56, 3) := by decide +kernel
theorem dX3_init_79 : decode cX3_init 79 = .ok (.aload_n 0, 1) := by decide +kernel
theorem dX3_init_80 : decode cX3_init 80 = .ok (.iconst 4, 1) := by decide +kernel
theorem dX3_init_81 : decode cX3_init 81 = .ok (.newarray .int, 2) := by decide +kernel
theorem dX3_init_83 : decode cX3_init 83 = .ok (.putfield 60, 3) := by decide +kernel
theorem dX3_init_86 : decode cX3_init 86 = .ok (.aload_n 0, 1) := by decide +kernel
theorem dX3_init_87 : decode cX3_init 87 = .ok (.new 35, 3) := by decide +kernel
theorem dX3_init_90 : decode cX3_init 90 = .ok (.dup, 1) := by decide +kernel
theorem dX3_init_91 : decode cX3_init 91 = .ok (.invokespecial 37, 3) := by decide +kernel
theorem dX3_init_94 : decode cX3_init 94 = .ok (.putfield 63, 3) := by decide +kernel
theorem dX3_init_97 : decode cX3_init 97 = .ok (.iconst 0, 1) := by decide +kernel
theorem dX3_init_98 : decode cX3_init 98 = .ok (.istore_n 1, 1) := by decide +kernel
theorem dX3_init_99 : decode cX3_init 99 = .ok (.iload_n 1, 1) := by decide +kernel
theorem dX3_init_100 : decode cX3_init 100 = .ok (.bipush 8, 2) := by decide +kernel
theorem dX3_init_102 : decode cX3_init 102 = .ok (.if_icmp .ge 22, 3) := by decide +kernel
theorem dX3_init_105 : decode cX3_init 105 = .ok (.aload_n 0, 1) := by decide +kernel
theorem dX3_init_106 : decode cX3_init 106 = .ok (.getfield 11, 3) := by decide +kernel
theorem dX3_init_109 : decode cX3_init 109 = .ok (.iload_n 1, 1) := by decide +kernel
theorem dX3_init_110 : decode cX3_init 110 = .ok (.new 9, 3) := by decide +kernel
theorem dX3_init_113 : decode cX3_init 113 = .ok (.dup, 1) := by decide +kernel
theorem dX3_init_114 : decode cX3_init 114 = .ok (.invokespecial 66, 3) := by decide +kernel
theorem dX3_init_117 : decode cX3_init 117 = .ok (.aastore, 1) := by decide +kernel
theorem dX3_init_118 : decode cX3_init 118 = .ok (.iinc 1 1, 3) := by decide +kernel
theorem dX3_init_121 : decode cX3_init 121 = .ok (.goto (-22), 3) := by decide +kernel
theorem dX3_init_124 : decode cX3_init 124 = .ok (.iconst 0, 1) := by decide +kernel
theorem dX3_init_125 : decode cX3_init 125 = .ok (.istore_n 1, 1) := by decide +kernel
theorem dX3_init_126 : decode cX3_init 126 = .ok (.iload_n 1, 1) := by decide +kernel
theorem dX3_init_127 : decode cX3_init 127 = .ok (.bipush 12, 2) := by decide +kernel
theorem dX3_init_129 : decode cX3_init 129 = .ok (.if_icmp .ge 22, 3) := by decide +kernel
theorem dX3_init_132 : decode cX3_init 132 = .ok (.aload_n 0, 1) := by decide +kernel
theorem dX3_init_133 : decode cX3_init 133 = .ok (.getfield 19, 3) := by decide +kernel
theorem dX3_init_136 : decode cX3_init 136 = .ok (.iload_n 1, 1) := by decide +kernel
theorem dX3_init_137 : decode cX3_init 137 = .ok (.new 17, 3) := by decide +kernel
theorem dX3_init_140 : decode cX3_init 140 = .ok (.dup, 1) := by decide +kernel
theorem dX3_init_141 : decode cX3_init 141 = .ok (.invokespecial 67, 3) := by decide +kernel
theorem dX3_init_144 : decode cX3_init 144 = .ok (.aastore, 1) := by decide +kernel
theorem dX3_init_145 : decode cX3_init 145 = .ok (.iinc 1 1, 3) := by decide +kernel
theorem dX3_init_148 : decode cX3_init 148 = .ok (.goto (-22), 3) := by decide +kernel
theorem dX3_init_151 : decode cX3_init 151 = .ok (.iconst 0, 1) := by decide +kernel
theorem dX3_init_152 : decode cX3_init 152 = .ok (.istore_n 1, 1) := by decide +kernel
theorem dX3_init_153 : decode cX3_init 153 = .ok (.iload_n 1, 1) := by decide +kernel
theorem dX3_init_154 : decode cX3_init 154 = .ok (.bipush 6, 2) := by decide +kernel
theorem dX3_init_156 : decode cX3_init 156 = .ok (.if_icmp .ge 22, 3) := by decide +kernel
theorem dX3_init_159 : decode cX3_init 159 = .ok (.aload_n 0, 1) := by decide +kernel
theorem dX3_init_160 : decode cX3_init 160 = .ok (.getfield 25, 3) := by decide +kernel
theorem dX3_init_163 : decode cX3_init 163 = .ok (.iload_n 1, 1) := by decide +kernel
theorem dX3_init_164 : decode cX3_init 164 = .ok (.new 23, 3) := by decide +kernel
theorem dX3_init_167 : decode cX3_init 167 = .ok (.dup, 1) := by decide +kernel
theorem dX3_init_168 : decode cX3_init 168 = .ok (.invokespecial 68, 3) := by decide +kernel
theorem dX3_init_171 : decode cX3_init 171 = .ok (.aastore, 1) := by decide +kernel
theorem dX3_init_172 : decode cX3_init 172 = .ok (.iinc 1 1, 3) := by decide +kernel
theorem dX3_init_175 : decode cX3_init 175 = .ok (.goto (-22), 3) := by decide +kernel
theorem dX3_init_178 : decode cX3_init 178 = .ok (.iconst 0, 1) := by decide +kernel
theorem dX3_init_179 : decode cX3_init 179 = .ok (.istore_n 1, 1) := by decide +kernel
theorem dX3_init_180 : decode cX3_init 180 = .ok (.iload_n 1, 1) := by decide +kernel
theorem dX3_init_181 : decode cX3_init 181 = .ok (.iconst 3, 1) := by decide +kernel
theorem dX3_init_182 : decode cX3_init 182 = .ok (.if_icmp .ge 22, 3) := by decide +kernel
theorem dX3_init_185 : decode cX3_init 185 = .ok (.aload_n 0, 1) := by decide +kernel
theorem dX3_init_186 : decode cX3_init 186 = .ok (.getfield 31, 3) := by decide +kernel
theorem dX3_init_189 : decode cX3_init 189 = .ok (.iload_n 1, 1) := by decide +kernel
theorem dX3_init_190 : decode cX3_init 190 = .ok (.new 29, 3) := by decide +kernel
theorem dX3_init_193 : decode cX3_init 193 = .ok (.dup, 1) := by decide +kernel
theorem dX3_init_194 : decode cX3_init 194 = .ok (.invokespecial 69, 3) := by decide +kernel
theorem dX3_init_197 : decode cX3_init 197 = .ok (.aastore, 1) := by decide +kernel
theorem dX3_init_198 : decode cX3_init 198 = .ok (.iinc 1 1, 3) := by decide +kernel
theorem dX3_init_201 : decode cX3_init 201 = .ok (.goto (-21), 3) := by decide +kernel
theorem dX3_init_204 : decode cX3_init 204 = .ok (.iconst 0, 1) := by decide +kernel
theorem dX3_init_205 : decode cX3_init 205 = .ok (.istore_n 1, 1) := by decide +kernel
theorem dX3_init_206 : decode cX3_init 206 = .ok (.iload_n 1, 1) := by decide +kernel
theorem dX3_init_207 : decode cX3_init 207 = .ok (.iconst 2, 1) := by decide +kernel
theorem dX3_init_208 : decode cX3_init 208 = .ok (.if_icmp .ge 17, 3) := by decide +kernel
theorem dX3_init_211 : decode cX3_init 211 = .ok (.aload_n 0, 1) := by decide +kernel
theorem dX3_init_212 : decode cX3_init 212 = .ok (.getfield 56, 3) := by decide +kernel
theorem dX3_init_215 : decode cX3_init 215 = .ok (.iload_n 1, 1) := by decide +kernel
theorem dX3_init_216 : decode cX3_init 216 = .ok (.bipush 100, 2) := by decide +kernel
theorem dX3_init_218 : decode cX3_init 218 = .ok (.iastore, 1) := by decide +kernel
theorem dX3_init_219 : decode cX3_init 219 = .ok (.iinc 1 1, 3) := by decide +kernel
theorem dX3_init_222 : decode cX3_init 222 = .ok (.goto (-16), 3) := by decide +kernel
theorem dX3_init_225 : decode cX3_init 225 = .ok (.return_, 1) := by decide +kernel
theorem dX3_copyFrom_0 : decode cX3_copyFrom 0 = .ok (.iconst 0, 1) := by decide +kernel
theorem dX3_copyFrom_1 : decode cX3_copyFrom 1 = .ok (.istore_n 2, 1) := by decide +kernel
theorem dX3_copyFrom_2 : decode cX3_copyFrom 2 = .ok (.iload_n 2, 1) := by decide +kernel
theorem dX3_copyFrom_3 : decode cX3_copyFrom 3 = .ok (.bipush 8, 2) := by decide +kernel
theorem dX3_copyFrom_5 : decode cX3_copyFrom 5 = .ok (.if_icmp .ge 24, 3) := by decide +kernel
theorem dX3_copyFrom_8 : decode cX3_copyFrom 8 = .ok (.aload_n 0, 1) := by decide +kernel
theorem dX3_copyFrom_9 : decode cX3_copyFrom 9 = .ok (.getfield 11, 3) := by decide +kernel
theorem dX3_copyFrom_12 : decode cX3_copyFrom 12 = .ok (.iload_n 2, 1) := by decide +kernel
theorem dX3_copyFrom_13 : decode cX3_copyFrom 13 = .ok (.aaload, 1) := by decide +kernel
theorem dX3_copyFrom_14 : decode cX3_copyFrom 14 = .ok (.aload_n 1, 1) := by decide +kernel
theorem dX3_copyFrom_15 : decode cX3_copyFrom 15 = .ok (.getfield 11, 3) := by decide +kernel
theorem dX3_copyFrom_18 : decode cX3_copyFrom 18 = .ok (.iload_n 2, 1) := by decide +kernel
theorem dX3_copyFrom_19 : decode cX3_copyFrom 19 = .ok (.aaload, 1) := by decide +kernel
theorem dX3_copyFrom_20 : decode cX3_copyFrom 20 = .ok (.invokevirtual 70, 3) := by decide +kernel
theorem dX3_copyFrom_23 : decode cX3_copyFrom 23 = .ok (.iinc 2 1, 3) := by decide +kernel
theorem dX3_copyFrom_26 : decode cX3_copyFrom 26 = .ok (.goto (-24), 3) := by decide +kernel
theorem dX3_copyFrom_29 : decode cX3_copyFrom 29 = .ok (.iconst 0, 1) := by decide +kernel
theorem dX3_copyFrom_30 : decode cX3_copyFrom 30 = .ok (.istore_n 2, 1) := by decide +kernel
theorem dX3_copyFrom_31 : decode cX3_copyFrom 31 = .ok (.iload_n 2, 1) := by decide +kernel
theorem dX3_copyFrom_32 : decode cX3_copyFrom 32 = .ok (.bipush 12, 2) := by decide +kernel
theorem dX3_copyFrom_34 : decode cX3_copyFrom 34 = .ok (.if_icmp .ge 24, 3) := by decide +kernel
theorem dX3_copyFrom_37 : decode cX3_copyFrom 37 = .ok (.aload_n 0, 1) := by decide +kernel
theorem dX3_copyFrom_38 : decode cX3_copyFrom 38 = .ok (.getfield 19, 3) := by decide +kernel
theorem dX3_copyFrom_41 : decode cX3_copyFrom 41 = .ok (.iload_n 2, 1) := by decide +kernel
theorem dX3_copyFrom_42 : decode cX3_copyFrom 42 = .ok (.aaload, 1) := by decide +kernel
theorem dX3_copyFrom_43 : decode cX3_copyFrom 43 = .ok (.aload_n 1, 1) := by decide +kernel
theorem dX3_copyFrom_44 : decode cX3_copyFrom 44 = .ok (.getfield 19, 3) := by decide +kernel
theorem dX3_copyFrom_47 : decode cX3_copyFrom 47 = .ok (.iload_n 2, 1) := by decide +kernel
theorem dX3_copyFrom_48 : decode cX3_copyFrom 48 = .ok (.aaload, 1) := by decide +kernel
theorem dX3_copyFrom_49 : decode cX3_copyFrom 49 = .ok (.invokevirtual 74, 3) := by decide +kernel
theorem dX3_copyFrom_52 : decode cX3_copyFrom 52 = .ok (.iinc 2 1, 3) := by decide +kernel
theorem dX3_copyFrom_55 : decode cX3_copyFrom 55 = .ok (.goto (-24), 3) := by decide +kernel
theorem dX3_copyFrom_58 : decode cX3_copyFrom 58 = .ok (.iconst 0, 1) := by decide +kernel
theorem dX3_copyFrom_59 : decode cX3_copyFrom 59 = .ok (.istore_n 2, 1) := by decide +kernel
theorem dX3_copyFrom_60 : decode cX3_copyFrom 60 = .ok (.iload_n 2, 1) := by decide +kernel
theorem dX3_copyFrom_61 : decode cX3_copyFrom 61 = .ok (.bipush 6, 2) := by decide +kernel
theorem dX3_copyFrom_63 : decode cX3_copyFrom 63 = .ok (.if_icmp .ge 24, 3) := by decide +kernel
theorem dX3_copyFrom_66 : decode cX3_copyFrom 66 = .ok (.aload_n 0, 1) := by decide +kernel
theorem dX3_copyFrom_67 : decode cX3_copyFrom 67 = .ok (.getfield 25, 3) := by decide +kernel
theorem dX3_copyFrom_70 : decode cX3_copyFrom 70 = .ok (.iload_n 2, 1) := by decide +kernel
theorem dX3_copyFrom_71 : decode cX3_copyFrom 71 = .ok (.aaload, 1) := by decide +kernel
theorem dX3_copyFrom_72 : decode cX3_copyFrom 72 = .ok (.aload_n 1, 1) := by decide +kernel
theorem dX3_copyFrom_73 : decode cX3_copyFrom 73 = .ok (.getfield 25, 3) := by decide +kernel
theorem dX3_copyFrom_76 : decode cX3_copyFrom 76 = .ok (.iload_n 2, 1) := by decide +kernel
theorem dX3_copyFrom_77 : decode cX3_copyFrom 77 = .ok (.aaload, 1) := by decide +kernel
theorem dX3_copyFrom_78 : decode cX3_copyFrom 78 = .ok (.invokevirtual 77, 3) := by decide +kernel
theorem dX3_copyFrom_81 : decode cX3_copyFrom 81 = .ok (.iinc 2 1, 3) := by decide +kernel
theorem dX3_copyFrom_84 : decode cX3_copyFrom 84 = .ok (.goto (-24), 3) := by decide +kernel
theorem dX3_copyFrom_87 : decode cX3_copyFrom 87 = .ok (.iconst 0, 1) := by decide +kernel
theorem dX3_copyFrom_88 : decode cX3_copyFrom 88 = .ok (.istore_n 2, 1) := by decide +kernel
theorem dX3_copyFrom_89 : decode cX3_copyFrom 89 = .ok (.iload_n 2, 1) := by decide +kernel
theorem dX3_copyFrom_90 : decode cX3_copyFrom 90 = .ok (.iconst 3, 1) := by decide +kernel
theorem dX3_copyFrom_91 : decode cX3_copyFrom 91 = .ok (.if_icmp .ge 24, 3) := by decide +kernel
theorem dX3_copyFrom_94 : decode cX3_copyFrom 94 = .ok (.aload_n 0, 1) := by decide +kernel
theorem dX3_copyFrom_95 : decode cX3_copyFrom 95 = .ok (.getfield 31, 3) := by decide +kernel
theorem dX3_copyFrom_98 : decode cX3_copyFrom 98 = .ok (.iload_n 2, 1) := by decide +kernel
theorem dX3_copyFrom_99 : decode cX3_copyFrom 99 = .ok (.aaload, 1) := by decide +kernel
theorem dX3_copyFrom_100 : decode cX3_copyFrom 100 = .ok (.aload_n 1, 1) := by decide +kernel
theorem dX3_copyFrom_101 : decode cX3_copyFrom 101 = .ok (.getfield 31, 3) := by decide +kernel
theorem dX3_copyFrom_104 : decode cX3_copyFrom 104 = .ok (.iload_n 2, 1) := by decide +kernel
theorem dX3_copyFrom_105 : decode cX3_copyFrom 105 = .ok (.aaload, 1) := by decide +kernel
theorem dX3_copyFrom_106 : decode cX3_copyFrom 106 = .ok (.invokevirtual 80, 3) := by decide +kernel
theorem dX3_copyFrom_109 : decode cX3_copyFrom 109 = .ok (.iinc 2 1, 3) := by decide +kernel
theorem dX3_copyFrom_112 : decode cX3_copyFrom 112 = .ok (.goto (-23), 3) := by decide +kernel
theorem dX3_copyFrom_115 : decode cX3_copyFrom 115 = .ok (.aload_n 0, 1) := by decide +kernel
theorem dX3_copyFrom_116 : decode cX3_copyFrom 116 = .ok (.getfield 38, 3) := by decide +kernel
theorem dX3_copyFrom_119 : decode cX3_copyFrom 119 = .ok (.aload_n 1, 1) := by decide +kernel
theorem dX3_copyFrom_120 : decode cX3_copyFrom 120 = .ok (.getfield 38, 3) := by decide +kernel
theorem dX3_copyFrom_123 : decode cX3_copyFrom 123 = .ok (.invokevirtual 83, 3) := by decide +kernel
theorem dX3_copyFrom_126 : decode cX3_copyFrom 126 = .ok (.aload_n 0, 1) := by decide +kernel
theorem dX3_copyFrom_127 : decode cX3_copyFrom 127 = .ok (.getfield 45, 3) := by decide +kernel
theorem dX3_copyFrom_130 : decode cX3_copyFrom 130 = .ok (.aload_n 1, 1) := by decide +kernel
theorem dX3_copyFrom_131 : decode cX3_copyFrom 131 = .ok (.getfield 45, 3) := by decide +kernel
theorem dX3_copyFrom_134 : decode cX3_copyFrom 134 = .ok (.invokevirtual 86, 3) := by decide +kernel
theorem dX3_copyFrom_137 : decode cX3_copyFrom 137 = .ok (.aload_n 0, 1) := by decide +kernel
theorem dX3_copyFrom_138 : decode cX3_copyFrom 138 = .ok (.getfield 52, 3) := by decide +kernel
theorem dX3_copyFrom_141 : decode cX3_copyFrom 141 = .ok (.aload_n 1, 1) := by decide +kernel
theorem dX3_copyFrom_142 : decode cX3_copyFrom 142 = .ok (.getfield 52, 3) := by decide +kernel
theorem dX3_copyFrom_145 : decode cX3_copyFrom 145 = .ok (.invokevirtual 89, 3) := by decide +kernel
theorem dX3_copyFrom_148 : decode cX3_copyFrom 148 = .ok (.aload_n 1, 1) := by decide +kernel
theorem dX3_copyFrom_149 : decode cX3_copyFrom 149 = .ok (.getfield 56, 3) := by decide +kernel
theorem dX3_copyFrom_152 : decode cX3_copyFrom 152 = .ok (.iconst 0, 1) := by decide +kernel
theorem dX3_copyFrom_153 : decode cX3_copyFrom 153 = .ok (.aload_n 0, 1) := by decide +kernel
theorem dX3_copyFrom_154 : decode cX3_copyFrom 154 = .ok (.getfield 56, 3) := by decide +kernel
theorem dX3_copyFrom_157 : decode cX3_copyFrom 157 = .ok (.iconst 0, 1) := by decide +kernel
theorem dX3_copyFrom_158 : decode cX3_copyFrom 158 = .ok (.iconst 2, 1) := by decide +kernel
theorem dX3_copyFrom_159 : decode cX3_copyFrom 159 = .ok (.invokestatic 92, 3) := by decide +kernel
theorem dX3_copyFrom_162 : decode cX3_copyFrom 162 = .ok (.aload_n 1, 1) := by decide +kernel
theorem dX3_copyFrom_163 : decode cX3_copyFrom 163 = .ok (.getfield 60, 3) := by decide +kernel
theorem dX3_copyFrom_166 : decode cX3_copyFrom 166 = .ok (.iconst 0, 1) := by decide +kernel
theorem dX3_copyFrom_167 : decode cX3_copyFrom 167 = .ok (.aload_n 0, 1) := by decide +kernel
theorem dX3_copyFrom_168 : decode cX3_copyFrom 168 = .ok (.getfield 60, 3) := by decide +kernel
theorem dX3_copyFrom_171 : decode cX3_copyFrom 171 = .ok (.iconst 0, 1) := by decide +kernel
theorem dX3_copyFrom_172 : decode cX3_copyFrom 172 = .ok (.iconst 4, 1) := by decide +kernel
theorem dX3_copyFrom_173 : decode cX3_copyFrom 173 = .ok (.invokestatic 92, 3) := by decide +kernel
theorem dX3_copyFrom_176 : decode cX3_copyFrom 176 = .ok (.aload_n 0, 1) := by decide +kernel
theorem dX3_copyFrom_177 : decode cX3_copyFrom 177 = .ok (.aload_n 1, 1) := by decide +kernel
theorem dX3_copyFrom_178 : decode cX3_copyFrom 178 = .ok (.getfield 98, 3) := by decide +kernel
theorem dX3_copyFrom_181 : decode cX3_copyFrom 181 = .ok (.putfield 98, 3) := by decide +kernel
theorem dX3_copyFrom_184 : decode cX3_copyFrom 184 = .ok (.aload_n 0, 1) := by decide +kernel
theorem dX3_copyFrom_185 : decode cX3_copyFrom 185 = .ok (.aload_n 1, 1) := by decide +kernel
theorem dX3_copyFrom_186 : decode cX3_copyFrom 186 = .ok (.getfield 102, 3) := by decide +kernel
theorem dX3_copyFrom_189 : decode cX3_copyFrom 189 = .ok (.putfield 102, 3) := by decide +kernel
theorem dX3_copyFrom_192 : decode cX3_copyFrom 192 = .ok (.aload_n 0, 1) := by decide +kernel
theorem dX3_copyFrom_193 : decode cX3_copyFrom 193 = .ok (.aload_n 1, 1) := by decide +kernel
theorem dX3_copyFrom_194 : decode cX3_copyFrom 194 = .ok (.getfield 105, 3) := by decide +kernel
theorem dX3_copyFrom_197 : decode cX3_copyFrom 197 = .ok (.putfield 105, 3) := by decide +kernel
theorem dX3_copyFrom_200 : decode cX3_copyFrom 200 = .ok (.aload_n 0, 1) := by decide +kernel
theorem dX3_copyFrom_201 : decode cX3_copyFrom 201 = .ok (.aload_n 1, 1) := by decide +kernel
theorem dX3_copyFrom_202 : decode cX3_copyFrom 202 = .ok (.getfield 108, 3) := by decide +kernel
theorem dX3_copyFrom_205 : decode cX3_copyFrom 205 = .ok (.putfield 108, 3) := by decide +kernel
theorem dX3_copyFrom_208 : decode cX3_copyFrom 208 = .ok (.aload_n 0, 1) := by decide +kernel
theorem dX3_copyFrom_209 : decode cX3_copyFrom 209 = .ok (.aload_n 1, 1) := by decide +kernel
theorem dX3_copyFrom_210 : decode cX3_copyFrom 210 = .ok (.getfield 111, 3) := by decide +kernel
theorem dX3_copyFrom_213 : decode cX3_copyFrom 213 = .ok (.putfield 111, 3) := by decide +kernel
theorem dX3_copyFrom_216 : decode cX3_copyFrom 216 = .ok (.return_, 1) := by decide +kernel
theorem dX3_light_0 : decode cX3_light 0 = .ok (.iconst 0, 1) := by decide +kernel
theorem dX3_light_1 : decode cX3_light 1 = .ok (.istore_n 1, 1) := by decide +kernel
theorem dX3_light_2 : decode cX3_light 2 = .ok (.iconst 0, 1) := by decide +kernel
theorem dX3_light_3 : decode cX3_light 3 = .ok (.istore_n 2, 1) := by decide +kernel
theorem dX3_light_4 : decode cX3_light 4 = .ok (.iload_n 2, 1) := by decide +kernel
theorem dX3_light_5 : decode cX3_light 5 = .ok (.iconst 4, 1) := by decide +kernel
theorem dX3_light_6 : decode cX3_light 6 = .ok (.if_icmp .ge 18, 3) := by decide +kernel
theorem dX3_light_9 : decode cX3_light 9 = .ok (.iload_n 1, 1) := by decide +kernel
theorem dX3_light_10 : decode cX3_light 10 = .ok (.aload_n 0, 1) := by decide +kernel
theorem dX3_light_11 : decode cX3_light 11 = .ok (.getfield 60, 3) := by decide +kernel
theorem dX3_light_14 : decode cX3_light 14 = .ok (.iload_n 2, 1) := by decide +kernel
theorem dX3_light_15 : decode cX3_light 15 = .ok (.iaload, 1) := by decide +kernel
theorem dX3_light_16 : decode cX3_light 16 = .ok (.iadd, 1) := by decide +kernel
theorem dX3_light_17 : decode cX3_light 17 = .ok (.istore_n 1, 1) := by decide +kernel
theorem dX3_light_18 : decode cX3_light 18 = .ok (.iinc 2 1, 3) := by decide +kernel
theorem dX3_light_21 : decode cX3_light 21 = .ok (.goto (-17), 3) := by decide +kernel
theorem dX3_light_24 : decode cX3_light 24 = .ok (.iload_n 1, 1) := by decide +kernel
theorem dX3_light_25 : decode cX3_light 25 = .ok (.bipush 10, 2) := by decide +kernel
theorem dX3_light_27 : decode cX3_light 27 = .ok (.if_icmp .ge 5, 3) := by decide +kernel
theorem dX3_light_30 : decode cX3_light 30 = .ok (.iconst 0, 1) := by decide +kernel
theorem dX3_light_31 : decode cX3_light 31 = .ok (.ireturn, 1) := by decide +kernel
theorem dX3_light_32 : decode cX3_light 32 = .ok (.iload_n 1, 1) := by decide +kernel
theorem dX3_light_33 : decode cX3_light 33 = .ok (.bipush 25, 2) := by decide +kernel
theorem dX3_light_35 : decode cX3_light 35 = .ok (.if_icmp .ge 7, 3) := by decide +kernel
theorem dX3_light_38 : decode cX3_light 38 = .ok (.iconst 1, 1) := by decide +kernel
theorem dX3_light_39 : decode cX3_light 39 = .ok (.goto 4, 3) := by decide +kernel
theorem dX3_light_42 : decode cX3_light 42 = .ok (.iconst 2, 1) := by decide +kernel
theorem dX3_light_43 : decode cX3_light 43 = .ok (.ireturn, 1) := by decide +kernel
theorem dX3_lastShock_0 : decode cX3_lastShock 0 = .ok (.aload_n 0, 1) := by decide +kernel
theorem dX3_lastShock_1 : decode cX3_lastShock 1 = .ok (.getfield 60, 3) := by decide +kernel
theorem dX3_lastShock_4 : decode cX3_lastShock 4 = .ok (.aload_n 0, 1) := by decide +kernel
theorem dX3_lastShock_5 : decode cX3_lastShock 5 = .ok (.getfield 111, 3) := by decide +kernel
theorem dX3_lastShock_8 : decode cX3_lastShock 8 = .ok (.iconst 3, 1) := by decide +kernel
theorem dX3_lastShock_9 : decode cX3_lastShock 9 = .ok (.iand, 1) := by decide +kernel
theorem dX3_lastShock_10 : decode cX3_lastShock 10 = .ok (.iaload, 1) := by decide +kernel
theorem dX3_lastShock_11 : decode cX3_lastShock 11 = .ok (.ireturn, 1) := by decide +kernel
theorem dX3_shareOf_0 : decode cX3_shareOf 0 = .ok (.iconst 0, 1) := by decide +kernel
theorem dX3_shareOf_1 : decode cX3_shareOf 1 = .ok (.istore_n 2, 1) := by decide +kernel
theorem dX3_shareOf_2 : decode cX3_shareOf 2 = .ok (.iconst 0, 1) := by decide +kernel
theorem dX3_shareOf_3 : decode cX3_shareOf 3 = .ok (.istore_n 3, 1) := by decide +kernel
theorem dX3_shareOf_4 : decode cX3_shareOf 4 = .ok (.iload_n 3, 1) := by decide +kernel
theorem dX3_shareOf_5 : decode cX3_shareOf 5 = .ok (.aload_n 0, 1) := by decide +kernel
theorem dX3_shareOf_6 : decode cX3_shareOf 6 = .ok (.getfield 98, 3) := by decide +kernel
theorem dX3_shareOf_9 : decode cX3_shareOf 9 = .ok (.if_icmp .ge 34, 3) := by decide +kernel
theorem dX3_shareOf_12 : decode cX3_shareOf 12 = .ok (.aload_n 0, 1) := by decide +kernel
theorem dX3_shareOf_13 : decode cX3_shareOf 13 = .ok (.getfield 11, 3) := by decide +kernel
theorem dX3_shareOf_16 : decode cX3_shareOf 16 = .ok (.iload_n 3, 1) := by decide +kernel
theorem dX3_shareOf_17 : decode cX3_shareOf 17 = .ok (.aaload, 1) := by decide +kernel
theorem dX3_shareOf_18 : decode cX3_shareOf 18 = .ok (.getfield 114, 3) := by decide +kernel
theorem dX3_shareOf_21 : decode cX3_shareOf 21 = .ok (.iload_n 1, 1) := by decide +kernel
theorem dX3_shareOf_22 : decode cX3_shareOf 22 = .ok (.if_icmp .ne 15, 3) := by decide +kernel
theorem dX3_shareOf_25 : decode cX3_shareOf 25 = .ok (.iload_n 2, 1) := by decide +kernel
theorem dX3_shareOf_26 : decode cX3_shareOf 26 = .ok (.aload_n 0, 1) := by decide +kernel
theorem dX3_shareOf_27 : decode cX3_shareOf 27 = .ok (.getfield 11, 3) := by decide +kernel
theorem dX3_shareOf_30 : decode cX3_shareOf 30 = .ok (.iload_n 3, 1) := by decide +kernel
theorem dX3_shareOf_31 : decode cX3_shareOf 31 = .ok (.aaload, 1) := by decide +kernel
theorem dX3_shareOf_32 : decode cX3_shareOf 32 = .ok (.getfield 117, 3) := by decide +kernel
theorem dX3_shareOf_35 : decode cX3_shareOf 35 = .ok (.iadd, 1) := by decide +kernel
theorem dX3_shareOf_36 : decode cX3_shareOf 36 = .ok (.istore_n 2, 1) := by decide +kernel
theorem dX3_shareOf_37 : decode cX3_shareOf 37 = .ok (.iinc 3 1, 3) := by decide +kernel
theorem dX3_shareOf_40 : decode cX3_shareOf 40 = .ok (.goto (-36), 3) := by decide +kernel
theorem dX3_shareOf_43 : decode cX3_shareOf 43 = .ok (.iload_n 2, 1) := by decide +kernel
theorem dX3_shareOf_44 : decode cX3_shareOf 44 = .ok (.ireturn, 1) := by decide +kernel
theorem dX3_lackedEver_0 : decode cX3_lackedEver 0 = .ok (.iconst 0, 1) := by decide +kernel
theorem dX3_lackedEver_1 : decode cX3_lackedEver 1 = .ok (.istore_n 1, 1) := by decide +kernel
theorem dX3_lackedEver_2 : decode cX3_lackedEver 2 = .ok (.iconst 0, 1) := by decide +kernel
theorem dX3_lackedEver_3 : decode cX3_lackedEver 3 = .ok (.istore_n 2, 1) := by decide +kernel
theorem dX3_lackedEver_4 : decode cX3_lackedEver 4 = .ok (.iload_n 2, 1) := by decide +kernel
theorem dX3_lackedEver_5 : decode cX3_lackedEver 5 = .ok (.aload_n 0, 1) := by decide +kernel
theorem dX3_lackedEver_6 : decode cX3_lackedEver 6 = .ok (.getfield 108, 3) := by decide +kernel
theorem dX3_lackedEver_9 : decode cX3_lackedEver 9 = .ok (.if_icmp .ge 21, 3) := by decide +kernel
theorem dX3_lackedEver_12 : decode cX3_lackedEver 12 = .ok (.iload_n 1, 1) := by decide +kernel
theorem dX3_lackedEver_13 : decode cX3_lackedEver 13 = .ok (.aload_n 0, 1) := by decide +kernel
theorem dX3_lackedEver_14 : decode cX3_lackedEver 14 = .ok (.getfield 31, 3) := by decide +kernel
theorem dX3_lackedEver_17 : decode cX3_lackedEver 17 = .ok (.iload_n 2, 1) := by decide +kernel
theorem dX3_lackedEver_18 : decode cX3_lackedEver 18 = .ok (.aaload, 1) := by decide +kernel
theorem dX3_lackedEver_19 : decode cX3_lackedEver 19 = .ok (.getfield 120, 3) := by decide +kernel
theorem dX3_lackedEver_22 : decode cX3_lackedEver 22 = .ok (.iadd, 1) := by decide +kernel
theorem dX3_lackedEver_23 : decode cX3_lackedEver 23 = .ok (.istore_n 1, 1) := by decide +kernel
theorem dX3_lackedEver_24 : decode cX3_lackedEver 24 = .ok (.iinc 2 1, 3) := by decide +kernel
theorem dX3_lackedEver_27 : decode cX3_lackedEver 27 = .ok (.goto (-23), 3) := by decide +kernel
theorem dX3_lackedEver_30 : decode cX3_lackedEver 30 = .ok (.iload_n 1, 1) := by decide +kernel
theorem dX3_lackedEver_31 : decode cX3_lackedEver 31 = .ok (.ireturn, 1) := by decide +kernel
theorem dX3_inBlocks_0 : decode cX3_inBlocks 0 = .ok (.iconst 0, 1) := by decide +kernel
theorem dX3_inBlocks_1 : decode cX3_inBlocks 1 = .ok (.istore_n 2, 1) := by decide +kernel
theorem dX3_inBlocks_2 : decode cX3_inBlocks 2 = .ok (.iconst 0, 1) := by decide +kernel
theorem dX3_inBlocks_3 : decode cX3_inBlocks 3 = .ok (.istore_n 3, 1) := by decide +kernel
theorem dX3_inBlocks_4 : decode cX3_inBlocks 4 = .ok (.iload_n 3, 1) := by decide +kernel
theorem dX3_inBlocks_5 : decode cX3_inBlocks 5 = .ok (.aload_n 0, 1) := by decide +kernel
theorem dX3_inBlocks_6 : decode cX3_inBlocks 6 = .ok (.getfield 98, 3) := by decide +kernel
theorem dX3_inBlocks_9 : decode cX3_inBlocks 9 = .ok (.if_icmp .ge 25, 3) := by decide +kernel
theorem dX3_inBlocks_12 : decode cX3_inBlocks 12 = .ok (.iload_n 2, 1) := by decide +kernel
theorem dX3_inBlocks_13 : decode cX3_inBlocks 13 = .ok (.aload_n 0, 1) := by decide +kernel
theorem dX3_inBlocks_14 : decode cX3_inBlocks 14 = .ok (.getfield 11, 3) := by decide +kernel
theorem dX3_inBlocks_17 : decode cX3_inBlocks 17 = .ok (.iload_n 3, 1) := by decide +kernel
theorem dX3_inBlocks_18 : decode cX3_inBlocks 18 = .ok (.aaload, 1) := by decide +kernel
theorem dX3_inBlocks_19 : decode cX3_inBlocks 19 = .ok (.getfield 123, 3) := by decide +kernel
theorem dX3_inBlocks_22 : decode cX3_inBlocks 22 = .ok (.iload_n 1, 1) := by decide +kernel
theorem dX3_inBlocks_23 : decode cX3_inBlocks 23 = .ok (.invokevirtual 126, 3) := by decide +kernel
theorem dX3_inBlocks_26 : decode cX3_inBlocks 26 = .ok (.iadd, 1) := by decide +kernel
theorem dX3_inBlocks_27 : decode cX3_inBlocks 27 = .ok (.istore_n 2, 1) := by decide +kernel
theorem dX3_inBlocks_28 : decode cX3_inBlocks 28 = .ok (.iinc 3 1, 3) := by decide +kernel
theorem dX3_inBlocks_31 : decode cX3_inBlocks 31 = .ok (.goto (-27), 3) := by decide +kernel
theorem dX3_inBlocks_34 : decode cX3_inBlocks 34 = .ok (.iload_n 2, 1) := by decide +kernel
theorem dX3_inBlocks_35 : decode cX3_inBlocks 35 = .ok (.ireturn, 1) := by decide +kernel
theorem dX3_accountedFor_0 : decode cX3_accountedFor 0 = .ok (.aload_n 0, 1) := by decide +kernel
theorem dX3_accountedFor_1 : decode cX3_accountedFor 1 = .ok (.iload_n 1, 1) := by decide +kernel
theorem dX3_accountedFor_2 : decode cX3_accountedFor 2 = .ok (.invokevirtual 130, 3) := by decide +kernel
theorem dX3_accountedFor_5 : decode cX3_accountedFor 5 = .ok (.aload_n 0, 1) := by decide +kernel
theorem dX3_accountedFor_6 : decode cX3_accountedFor 6 = .ok (.getfield 38, 3) := by decide +kernel
theorem dX3_accountedFor_9 : decode cX3_accountedFor 9 = .ok (.iload_n 1, 1) := by decide +kernel
theorem dX3_accountedFor_10 : decode cX3_accountedFor 10 = .ok (.invokevirtual 126, 3) := by decide +kernel
theorem dX3_accountedFor_13 : decode cX3_accountedFor 13 = .ok (.iadd, 1) := by decide +kernel
theorem dX3_accountedFor_14 : decode cX3_accountedFor 14 = .ok (.aload_n 0, 1) := by decide +kernel
theorem dX3_accountedFor_15 : decode cX3_accountedFor 15 = .ok (.getfield 52, 3) := by decide +kernel
theorem dX3_accountedFor_18 : decode cX3_accountedFor 18 = .ok (.getfield 133, 3) := by decide +kernel
theorem dX3_accountedFor_21 : decode cX3_accountedFor 21 = .ok (.iload_n 1, 1) := by decide +kernel
theorem dX3_accountedFor_22 : decode cX3_accountedFor 22 = .ok (.invokevirtual 126, 3) := by decide +kernel
theorem dX3_accountedFor_25 : decode cX3_accountedFor 25 = .ok (.iadd, 1) := by decide +kernel
theorem dX3_accountedFor_26 : decode cX3_accountedFor 26 = .ok (.aload_n 0, 1) := by decide +kernel
theorem dX3_accountedFor_27 : decode cX3_accountedFor 27 = .ok (.getfield 52, 3) := by decide +kernel
theorem dX3_accountedFor_30 : decode cX3_accountedFor 30 = .ok (.getfield 136, 3) := by decide +kernel
theorem dX3_accountedFor_33 : decode cX3_accountedFor 33 = .ok (.iload_n 1, 1) := by decide +kernel
theorem dX3_accountedFor_34 : decode cX3_accountedFor 34 = .ok (.invokevirtual 126, 3) := by decide +kernel
theorem dX3_accountedFor_37 : decode cX3_accountedFor 37 = .ok (.iadd, 1) := by decide +kernel
theorem dX3_accountedFor_38 : decode cX3_accountedFor 38 = .ok (.ireturn, 1) := by decide +kernel
theorem dX3_turnAll_0 : decode cX3_turnAll 0 = .ok (.iconst 0, 1) := by decide +kernel
theorem dX3_turnAll_1 : decode cX3_turnAll 1 = .ok (.istore_n 3, 1) := by decide +kernel
theorem dX3_turnAll_2 : decode cX3_turnAll 2 = .ok (.iload_n 3, 1) := by decide +kernel
theorem dX3_turnAll_3 : decode cX3_turnAll 3 = .ok (.aload_n 0, 1) := by decide +kernel
theorem dX3_turnAll_4 : decode cX3_turnAll 4 = .ok (.getfield 105, 3) := by decide +kernel
theorem dX3_turnAll_7 : decode cX3_turnAll 7 = .ok (.if_icmp .ge 35, 3) := by decide +kernel
theorem dX3_turnAll_10 : decode cX3_turnAll 10 = .ok (.aload_n 0, 1) := by decide +kernel
theorem dX3_turnAll_11 : decode cX3_turnAll 11 = .ok (.getfield 25, 3) := by decide +kernel
theorem dX3_turnAll_14 : decode cX3_turnAll 14 = .ok (.iload_n 3, 1) := by decide +kernel
theorem dX3_turnAll_15 : decode cX3_turnAll 15 = .ok (.aaload, 1) := by decide +kernel
theorem dX3_turnAll_16 : decode cX3_turnAll 16 = .ok (.aload_n 0, 1) := by decide +kernel
theorem dX3_turnAll_17 : decode cX3_turnAll 17 = .ok (.getfield 25, 3) := by decide +kernel
theorem dX3_turnAll_20 : decode cX3_turnAll 20 = .ok (.iload_n 3, 1) := by decide +kernel
theorem dX3_turnAll_21 : decode cX3_turnAll 21 = .ok (.aaload, 1) := by decide +kernel
theorem dX3_turnAll_22 : decode cX3_turnAll 22 = .ok (.getfield 139, 3) := by decide +kernel
theorem dX3_turnAll_25 : decode cX3_turnAll 25 = .ok (.ifCond .eq 7, 3) := by decide +kernel
theorem dX3_turnAll_28 : decode cX3_turnAll 28 = .ok (.iload_n 2, 1) := by decide +kernel
theorem dX3_turnAll_29 : decode cX3_turnAll 29 = .ok (.goto 4, 3) := by decide +kernel
theorem dX3_turnAll_32 : decode cX3_turnAll 32 = .ok (.iload_n 1, 1) := by decide +kernel
theorem dX3_turnAll_33 : decode cX3_turnAll 33 = .ok (.putfield 143, 3) := by decide +kernel
theorem dX3_turnAll_36 : decode cX3_turnAll 36 = .ok (.iinc 3 1, 3) := by decide +kernel
theorem dX3_turnAll_39 : decode cX3_turnAll 39 = .ok (.goto (-37), 3) := by decide +kernel
theorem dX3_turnAll_42 : decode cX3_turnAll 42 = .ok (.return_, 1) := by decide +kernel
theorem dX3_step_0 : decode cX3_step 0 = .ok (.aload_n 0, 1) := by decide +kernel
theorem dX3_step_1 : decode cX3_step 1 = .ok (.dup, 1) := by decide +kernel
theorem dX3_step_2 : decode cX3_step 2 = .ok (.getfield 111, 3) := by decide +kernel
theorem dX3_step_5 : decode cX3_step 5 = .ok (.iconst 1, 1) := by decide +kernel
theorem dX3_step_6 : decode cX3_step 6 = .ok (.iadd, 1) := by decide +kernel
theorem dX3_step_7 : decode cX3_step 7 = .ok (.putfield 111, 3) := by decide +kernel
theorem dX3_step_10 : decode cX3_step 10 = .ok (.aload_n 0, 1) := by decide +kernel
theorem dX3_step_11 : decode cX3_step 11 = .ok (.invokevirtual 146, 3) := by decide +kernel
theorem dX3_step_14 : decode cX3_step 14 = .ok (.istore_n 1, 1) := by decide +kernel
theorem dX3_step_15 : decode cX3_step 15 = .ok (.iconst 0, 1) := by decide +kernel
theorem dX3_step_16 : decode cX3_step 16 = .ok (.istore_n 2, 1) := by decide +kernel
theorem dX3_step_17 : decode cX3_step 17 = .ok (.iload_n 2, 1) := by decide +kernel
theorem dX3_step_18 : decode cX3_step 18 = .ok (.aload_n 0, 1) := by decide +kernel
theorem dX3_step_19 : decode cX3_step 19 = .ok (.getfield 102, 3) := by decide +kernel
theorem dX3_step_22 : decode cX3_step 22 = .ok (.if_icmp .ge 19, 3) := by decide +kernel
theorem dX3_step_25 : decode cX3_step 25 = .ok (.aload_n 0, 1) := by decide +kernel
theorem dX3_step_26 : decode cX3_step 26 = .ok (.aload_n 0, 1) := by decide +kernel
theorem dX3_step_27 : decode cX3_step 27 = .ok (.getfield 19, 3) := by decide +kernel
theorem dX3_step_30 : decode cX3_step 30 = .ok (.iload_n 2, 1) := by decide +kernel
theorem dX3_step_31 : decode cX3_step 31 = .ok (.aaload, 1) := by decide +kernel
theorem dX3_step_32 : decode cX3_step 32 = .ok (.invokevirtual 150, 3) := by decide +kernel
theorem dX3_step_35 : decode cX3_step 35 = .ok (.iinc 2 1, 3) := by decide +kernel
theorem dX3_step_38 : decode cX3_step 38 = .ok (.goto (-21), 3) := by decide +kernel
theorem dX3_step_41 : decode cX3_step 41 = .ok (.iconst 0, 1) := by decide +kernel
theorem dX3_step_42 : decode cX3_step 42 = .ok (.istore_n 2, 1) := by decide +kernel
theorem dX3_step_43 : decode cX3_step 43 = .ok (.iconst 0, 1) := by decide +kernel
theorem dX3_step_44 : decode cX3_step 44 = .ok (.istore_n 3, 1) := by decide +kernel
theorem dX3_step_45 : decode cX3_step 45 = .ok (.iload_n 3, 1) := by decide +kernel
theorem dX3_step_46 : decode cX3_step 46 = .ok (.aload_n 0, 1) := by decide +kernel
theorem dX3_step_47 : decode cX3_step 47 = .ok (.getfield 105, 3) := by decide +kernel
theorem dX3_step_50 : decode cX3_step 50 = .ok (.if_icmp .ge 34, 3) := by decide +kernel
theorem dX3_step_53 : decode cX3_step 53 = .ok (.aload_n 0, 1) := by decide +kernel
theorem dX3_step_54 : decode cX3_step 54 = .ok (.getfield 25, 3) := by decide +kernel
theorem dX3_step_57 : decode cX3_step 57 = .ok (.iload_n 3, 1) := by decide +kernel
theorem dX3_step_58 : decode cX3_step 58 = .ok (.aaload, 1) := by decide +kernel
theorem dX3_step_59 : decode cX3_step 59 = .ok (.getfield 139, 3) := by decide +kernel
theorem dX3_step_62 : decode cX3_step 62 = .ok (.ifCond .ne 16, 3) := by decide +kernel
theorem dX3_step_65 : decode cX3_step 65 = .ok (.iload_n 2, 1) := by decide +kernel
theorem dX3_step_66 : decode cX3_step 66 = .ok (.aload_n 0, 1) := by decide +kernel
theorem dX3_step_67 : decode cX3_step 67 = .ok (.aload_n 0, 1) := by decide +kernel
theorem dX3_step_68 : decode cX3_step 68 = .ok (.getfield 25, 3) := by decide +kernel
theorem dX3_step_71 : decode cX3_step 71 = .ok (.iload_n 3, 1) := by decide +kernel
theorem dX3_step_72 : decode cX3_step 72 = .ok (.aaload, 1) := by decide +kernel
theorem dX3_step_73 : decode cX3_step 73 = .ok (.invokevirtual 153, 3) := by decide +kernel
theorem dX3_step_76 : decode cX3_step 76 = .ok (.iadd, 1) := by decide +kernel
theorem dX3_step_77 : decode cX3_step 77 = .ok (.istore_n 2, 1) := by decide +kernel
theorem dX3_step_78 : decode cX3_step 78 = .ok (.iinc 3 1, 3) := by decide +kernel
theorem dX3_step_81 : decode cX3_step 81 = .ok (.goto (-36), 3) := by decide +kernel
theorem dX3_step_84 : decode cX3_step 84 = .ok (.aload_n 0, 1) := by decide +kernel
theorem dX3_step_85 : decode cX3_step 85 = .ok (.iload_n 2, 1) := by decide +kernel
theorem dX3_step_86 : decode cX3_step 86 = .ok (.invokevirtual 157, 3) := by decide +kernel
theorem dX3_step_89 : decode cX3_step 89 = .ok (.aload_n 0, 1) := by decide +kernel
theorem dX3_step_90 : decode cX3_step 90 = .ok (.invokevirtual 161, 3) := by decide +kernel
theorem dX3_step_93 : decode cX3_step 93 = .ok (.aload_n 0, 1) := by decide +kernel
theorem dX3_step_94 : decode cX3_step 94 = .ok (.invokevirtual 164, 3) := by decide +kernel
theorem dX3_step_97 : decode cX3_step 97 = .ok (.iconst 0, 1) := by decide +kernel
theorem dX3_step_98 : decode cX3_step 98 = .ok (.istore_n 3, 1) := by decide +kernel
theorem dX3_step_99 : decode cX3_step 99 = .ok (.iconst 0, 1) := by decide +kernel
theorem dX3_step_100 : decode cX3_step 100 = .ok (.istore 4, 2) := by decide +kernel
theorem dX3_step_102 : decode cX3_step 102 = .ok (.iload 4, 2) := by decide +kernel
theorem dX3_step_104 : decode cX3_step 104 = .ok (.aload_n 0, 1) := by decide +kernel
theorem dX3_step_105 : decode cX3_step 105 = .ok (.getfield 105, 3) := by decide +kernel
theorem dX3_step_108 : decode cX3_step 108 = .ok (.if_icmp .ge 37, 3) := by decide +kernel
theorem dX3_step_111 : decode cX3_step 111 = .ok (.aload_n 0, 1) := by decide +kernel
theorem dX3_step_112 : decode cX3_step 112 = .ok (.getfield 25, 3) := by decide +kernel
theorem dX3_step_115 : decode cX3_step 115 = .ok (.iload 4, 2) := by decide +kernel
theorem dX3_step_117 : decode cX3_step 117 = .ok (.aaload, 1) := by decide +kernel
theorem dX3_step_118 : decode cX3_step 118 = .ok (.getfield 139, 3) := by decide +kernel
theorem dX3_step_121 : decode cX3_step 121 = .ok (.ifCond .eq 18, 3) := by decide +kernel
theorem dX3_step_124 : decode cX3_step 124 = .ok (.iload_n 3, 1) := by decide +kernel
theorem dX3_step_125 : decode cX3_step 125 = .ok (.aload_n 0, 1) := by decide +kernel
theorem dX3_step_126 : decode cX3_step 126 = .ok (.aload_n 0, 1) := by decide +kernel
theorem dX3_step_127 : decode cX3_step 127 = .ok (.getfield 25, 3) := by decide +kernel
theorem dX3_step_130 : decode cX3_step 130 = .ok (.iload 4, 2) := by decide +kernel
theorem dX3_step_132 : decode cX3_step 132 = .ok (.aaload, 1) := by decide +kernel
theorem dX3_step_133 : decode cX3_step 133 = .ok (.iload_n 1, 1) := by decide +kernel
theorem dX3_step_134 : decode cX3_step 134 = .ok (.invokevirtual 167, 3) := by decide +kernel
theorem dX3_step_137 : decode cX3_step 137 = .ok (.iadd, 1) := by decide +kernel
theorem dX3_step_138 : decode cX3_step 138 = .ok (.istore_n 3, 1) := by decide +kernel
theorem dX3_step_139 : decode cX3_step 139 = .ok (.iinc 4 1, 3) := by decide +kernel
theorem dX3_step_142 : decode cX3_step 142 = .ok (.goto (-40), 3) := by decide +kernel
theorem dX3_step_145 : decode cX3_step 145 = .ok (.aload_n 0, 1) := by decide +kernel
theorem dX3_step_146 : decode cX3_step 146 = .ok (.getfield 60, 3) := by decide +kernel
theorem dX3_step_149 : decode cX3_step 149 = .ok (.aload_n 0, 1) := by decide +kernel
theorem dX3_step_150 : decode cX3_step 150 = .ok (.getfield 111, 3) := by decide +kernel
theorem dX3_step_153 : decode cX3_step 153 = .ok (.iconst 3, 1) := by decide +kernel
theorem dX3_step_154 : decode cX3_step 154 = .ok (.iand, 1) := by decide +kernel
theorem dX3_step_155 : decode cX3_step 155 = .ok (.iload_n 3, 1) := by decide +kernel
theorem dX3_step_156 : decode cX3_step 156 = .ok (.iastore, 1) := by decide +kernel
theorem dX3_step_157 : decode cX3_step 157 = .ok (.iconst 0, 1) := by decide +kernel
theorem dX3_step_158 : decode cX3_step 158 = .ok (.istore 4, 2) := by decide +kernel
theorem dX3_step_160 : decode cX3_step 160 = .ok (.iload 4, 2) := by decide +kernel
theorem dX3_step_162 : decode cX3_step 162 = .ok (.aload_n 0, 1) := by decide +kernel
theorem dX3_step_163 : decode cX3_step 163 = .ok (.getfield 108, 3) := by decide +kernel
theorem dX3_step_166 : decode cX3_step 166 = .ok (.if_icmp .ge 20, 3) := by decide +kernel
theorem dX3_step_169 : decode cX3_step 169 = .ok (.aload_n 0, 1) := by decide +kernel
theorem dX3_step_170 : decode cX3_step 170 = .ok (.aload_n 0, 1) := by decide +kernel
theorem dX3_step_171 : decode cX3_step 171 = .ok (.getfield 31, 3) := by decide +kernel
theorem dX3_step_174 : decode cX3_step 174 = .ok (.iload 4, 2) := by decide +kernel
theorem dX3_step_176 : decode cX3_step 176 = .ok (.aaload, 1) := by decide +kernel
theorem dX3_step_177 : decode cX3_step 177 = .ok (.invokevirtual 171, 3) := by decide +kernel
theorem dX3_step_180 : decode cX3_step 180 = .ok (.iinc 4 1, 3) := by decide +kernel
theorem dX3_step_183 : decode cX3_step 183 = .ok (.goto (-23), 3) := by decide +kernel
theorem dX3_step_186 : decode cX3_step 186 = .ok (.aload_n 0, 1) := by decide +kernel
theorem dX3_step_187 : decode cX3_step 187 = .ok (.invokevirtual 174, 3) := by decide +kernel
theorem dX3_step_190 : decode cX3_step 190 = .ok (.aload_n 0, 1) := by decide +kernel
theorem dX3_step_191 : decode cX3_step 191 = .ok (.invokevirtual 177, 3) := by decide +kernel
theorem dX3_step_194 : decode cX3_step 194 = .ok (.return_, 1) := by decide +kernel
theorem dX3_flowThrough_0 : decode cX3_flowThrough 0 = .ok (.aload_n 0, 1) := by decide +kernel
theorem dX3_flowThrough_1 : decode cX3_flowThrough 1 = .ok (.getfield 11, 3) := by decide +kernel
theorem dX3_flowThrough_4 : decode cX3_flowThrough 4 = .ok (.aload_n 1, 1) := by decide +kernel
theorem dX3_flowThrough_5 : decode cX3_flowThrough 5 = .ok (.getfield 180, 3) := by decide +kernel
theorem dX3_flowThrough_8 : decode cX3_flowThrough 8 = .ok (.aaload, 1) := by decide +kernel
theorem dX3_flowThrough_9 : decode cX3_flowThrough 9 = .ok (.astore_n 2, 1) := by decide +kernel
theorem dX3_flowThrough_10 : decode cX3_flowThrough 10 = .ok (.aload_n 0, 1) := by decide +kernel
theorem dX3_flowThrough_11 : decode cX3_flowThrough 11 = .ok (.getfield 11, 3) := by decide +kernel
theorem dX3_flowThrough_14 : decode cX3_flowThrough 14 = .ok (.aload_n 1, 1) := by decide +kernel
theorem dX3_flowThrough_15 : decode cX3_flowThrough 15 = .ok (.getfield 183, 3) := by decide +kernel
theorem dX3_flowThrough_18 : decode cX3_flowThrough 18 = .ok (.aaload, 1) := by decide +kernel
theorem dX3_flowThrough_19 : decode cX3_flowThrough 19 = .ok (.astore_n 3, 1) := by decide +kernel
theorem dX3_flowThrough_20 : decode cX3_flowThrough 20 = .ok (.aload_n 2, 1) := by decide +kernel
theorem dX3_flowThrough_21 : decode cX3_flowThrough 21 = .ok (.invokevirtual 186, 3) := by decide +kernel
theorem dX3_flowThrough_24 : decode cX3_flowThrough 24 = .ok (.aload_n 3, 1) := by decide +kernel
theorem dX3_flowThrough_25 : decode cX3_flowThrough 25 = .ok (.invokevirtual 186, 3) := by decide +kernel
theorem dX3_flowThrough_28 : decode cX3_flowThrough 28 = .ok (.isub, 1) := by decide +kernel
theorem dX3_flowThrough_29 : decode cX3_flowThrough 29 = .ok (.istore 4, 2) := by decide +kernel
theorem dX3_flowThrough_31 : decode cX3_flowThrough 31 = .ok (.iload 4, 2) := by decide +kernel
theorem dX3_flowThrough_33 : decode cX3_flowThrough 33 = .ok (.ifCond .lt 7, 3) := by decide +kernel
theorem dX3_flowThrough_36 : decode cX3_flowThrough 36 = .ok (.aload_n 2, 1) := by decide +kernel
theorem dX3_flowThrough_37 : decode cX3_flowThrough 37 = .ok (.goto 4, 3) := by decide +kernel
theorem dX3_flowThrough_40 : decode cX3_flowThrough 40 = .ok (.aload_n 3, 1) := by decide +kernel
theorem dX3_flowThrough_41 : decode cX3_flowThrough 41 = .ok (.astore 5, 2) := by decide +kernel
theorem dX3_flowThrough_43 : decode cX3_flowThrough 43 = .ok (.iload 4, 2) := by decide +kernel
theorem dX3_flowThrough_45 : decode cX3_flowThrough 45 = .ok (.ifCond .lt 7, 3) := by decide +kernel
theorem dX3_flowThrough_48 : decode cX3_flowThrough 48 = .ok (.aload_n 3, 1) := by decide +kernel
theorem dX3_flowThrough_49 : decode cX3_flowThrough 49 = .ok (.goto 4, 3) := by decide +kernel
theorem dX3_flowThrough_52 : decode cX3_flowThrough 52 = .ok (.aload_n 2, 1) := by decide +kernel
theorem dX3_flowThrough_53 : decode cX3_flowThrough 53 = .ok (.astore 6, 2) := by decide +kernel
theorem dX3_flowThrough_55 : decode cX3_flowThrough 55 = .ok (.iload 4, 2) := by decide +kernel
theorem dX3_flowThrough_57 : decode cX3_flowThrough 57 = .ok (.invokestatic 189, 3) := by decide +kernel
theorem dX3_flowThrough_60 : decode cX3_flowThrough 60 = .ok (.istore 7, 2) := by decide +kernel
theorem dX3_flowThrough_62 : decode cX3_flowThrough 62 = .ok (.aload 5, 2) := by decide +kernel
theorem dX3_flowThrough_64 : decode cX3_flowThrough 64 = .ok (.iload 7, 2) := by decide +kernel
theorem dX3_flowThrough_66 : decode cX3_flowThrough 66 = .ok (.aload_n 1, 1) := by decide +kernel
theorem dX3_flowThrough_67 : decode cX3_flowThrough 67 = .ok (.getfield 194, 3) := by decide +kernel
theorem dX3_flowThrough_70 : decode cX3_flowThrough 70 = .ok (.imul, 1) := by decide +kernel
theorem dX3_flowThrough_71 : decode cX3_flowThrough 71 = .ok (.bipush 20, 2) := by decide +kernel
theorem dX3_flowThrough_73 : decode cX3_flowThrough 73 = .ok (.idiv, 1) := by decide +kernel
theorem dX3_flowThrough_74 : decode cX3_flowThrough 74 = .ok (.aload_n 0, 1) := by decide +kernel
theorem dX3_flowThrough_75 : decode cX3_flowThrough 75 = .ok (.getfield 63, 3) := by decide +kernel
theorem dX3_flowThrough_78 : decode cX3_flowThrough 78 = .ok (.invokevirtual 197, 3) := by decide +kernel
theorem dX3_flowThrough_81 : decode cX3_flowThrough 81 = .ok (.aload 6, 2) := by decide +kernel
theorem dX3_flowThrough_83 : decode cX3_flowThrough 83 = .ok (.getfield 123, 3) := by decide +kernel
theorem dX3_flowThrough_86 : decode cX3_flowThrough 86 = .ok (.aload_n 0, 1) := by decide +kernel
theorem dX3_flowThrough_87 : decode cX3_flowThrough 87 = .ok (.getfield 63, 3) := by decide +kernel
theorem dX3_flowThrough_90 : decode cX3_flowThrough 90 = .ok (.invokevirtual 201, 3) := by decide +kernel
theorem dX3_flowThrough_93 : decode cX3_flowThrough 93 = .ok (.aload_n 1, 1) := by decide +kernel
theorem dX3_flowThrough_94 : decode cX3_flowThrough 94 = .ok (.iload 4, 2) := by decide +kernel
theorem dX3_flowThrough_96 : decode cX3_flowThrough 96 = .ok (.ifCond .lt 13, 3) := by decide +kernel
theorem dX3_flowThrough_99 : decode cX3_flowThrough 99 = .ok (.aload_n 0, 1) := by decide +kernel
theorem dX3_flowThrough_100 : decode cX3_flowThrough 100 = .ok (.getfield 63, 3) := by decide +kernel
theorem dX3_flowThrough_103 : decode cX3_flowThrough 103 = .ok (.getfield 204, 3) := by decide +kernel
theorem dX3_flowThrough_106 : decode cX3_flowThrough 106 = .ok (.goto 11, 3) := by decide +kernel
theorem dX3_flowThrough_109 : decode cX3_flowThrough 109 = .ok (.aload_n 0, 1) := by decide +kernel
theorem dX3_flowThrough_110 : decode cX3_flowThrough 110 = .ok (.getfield 63, 3) := by decide +kernel
theorem dX3_flowThrough_113 : decode cX3_flowThrough 113 = .ok (.getfield 204, 3) := by decide +kernel
theorem dX3_flowThrough_116 : decode cX3_flowThrough 116 = .ok (.ineg, 1) := by decide +kernel
theorem dX3_flowThrough_117 : decode cX3_flowThrough 117 = .ok (.putfield 207, 3) := by decide +kernel
theorem dX3_flowThrough_120 : decode cX3_flowThrough 120 = .ok (.aload_n 2, 1) := by decide +kernel
theorem dX3_flowThrough_121 : decode cX3_flowThrough 121 = .ok (.invokevirtual 210, 3) := by decide +kernel
theorem dX3_flowThrough_124 : decode cX3_flowThrough 124 = .ok (.aload_n 3, 1) := by decide +kernel
theorem dX3_flowThrough_125 : decode cX3_flowThrough 125 = .ok (.invokevirtual 210, 3) := by decide +kernel
theorem dX3_flowThrough_128 : decode cX3_flowThrough 128 = .ok (.isub, 1) := by decide +kernel
theorem dX3_flowThrough_129 : decode cX3_flowThrough 129 = .ok (.aload_n 1, 1) := by decide +kernel
theorem dX3_flowThrough_130 : decode cX3_flowThrough 130 = .ok (.getfield 194, 3) := by decide +kernel
theorem dX3_flowThrough_133 : decode cX3_flowThrough 133 = .ok (.imul, 1) := by decide +kernel
theorem dX3_flowThrough_134 : decode cX3_flowThrough 134 = .ok (.istore 8, 2) := by decide +kernel
theorem dX3_flowThrough_136 : decode cX3_flowThrough 136 = .ok (.aload_n 2, 1) := by decide +kernel
theorem dX3_flowThrough_137 : decode cX3_flowThrough 137 = .ok (.getfield 123, 3) := by decide +kernel
theorem dX3_flowThrough_140 : decode cX3_flowThrough 140 = .ok (.dup, 1) := by decide +kernel
theorem dX3_flowThrough_141 : decode cX3_flowThrough 141 = .ok (.getfield 213, 3) := by decide +kernel
theorem dX3_flowThrough_144 : decode cX3_flowThrough 144 = .ok (.iload 8, 2) := by decide +kernel
theorem dX3_flowThrough_146 : decode cX3_flowThrough 146 = .ok (.isub, 1) := by decide +kernel
theorem dX3_flowThrough_147 : decode cX3_flowThrough 147 = .ok (.putfield 213, 3) := by decide +kernel
theorem dX3_flowThrough_150 : decode cX3_flowThrough 150 = .ok (.aload_n 3, 1) := by decide +kernel
theorem dX3_flowThrough_151 : decode cX3_flowThrough 151 = .ok (.getfield 123, 3) := by decide +kernel
theorem dX3_flowThrough_154 : decode cX3_flowThrough 154 = .ok (.dup, 1) := by decide +kernel
theorem dX3_flowThrough_155 : decode cX3_flowThrough 155 = .ok (.getfield 213, 3) := by decide +kernel
theorem dX3_flowThrough_158 : decode cX3_flowThrough 158 = .ok (.iload 8, 2) := by decide +kernel
theorem dX3_flowThrough_160 : decode cX3_flowThrough 160 = .ok (.iadd, 1) := by decide +kernel
theorem dX3_flowThrough_161 : decode cX3_flowThrough 161 = .ok (.putfield 213, 3) := by decide +kernel
theorem dX3_flowThrough_164 : decode cX3_flowThrough 164 = .ok (.iload 7, 2) := by decide +kernel
theorem dX3_flowThrough_166 : decode cX3_flowThrough 166 = .ok (.bipush 50, 2) := by decide +kernel
theorem dX3_flowThrough_168 : decode cX3_flowThrough 168 = .ok (.if_icmp .lt 18, 3) := by decide +kernel
theorem dX3_flowThrough_171 : decode cX3_flowThrough 171 = .ok (.aload_n 1, 1) := by decide +kernel
theorem dX3_flowThrough_172 : decode cX3_flowThrough 172 = .ok (.aload_n 1, 1) := by decide +kernel
theorem dX3_flowThrough_173 : decode cX3_flowThrough 173 = .ok (.getfield 194, 3) := by decide +kernel
theorem dX3_flowThrough_176 : decode cX3_flowThrough 176 = .ok (.iconst 1, 1) := by decide +kernel
theorem dX3_flowThrough_177 : decode cX3_flowThrough 177 = .ok (.iadd, 1) := by decide +kernel
theorem dX3_flowThrough_178 : decode cX3_flowThrough 178 = .ok (.bipush 9, 2) := by decide +kernel
theorem dX3_flowThrough_180 : decode cX3_flowThrough 180 = .ok (.invokestatic 216, 3) := by decide +kernel
theorem dX3_flowThrough_183 : decode cX3_flowThrough 183 = .ok (.putfield 194, 3) := by decide +kernel
theorem dX3_flowThrough_186 : decode cX3_flowThrough 186 = .ok (.return_, 1) := by decide +kernel
theorem dX3_produce_0 : decode cX3_produce 0 = .ok (.aload_n 0, 1) := by decide +kernel
theorem dX3_produce_1 : decode cX3_produce 1 = .ok (.getfield 11, 3) := by decide +kernel
theorem dX3_produce_4 : decode cX3_produce 4 = .ok (.aload_n 1, 1) := by decide +kernel
theorem dX3_produce_5 : decode cX3_produce 5 = .ok (.getfield 220, 3) := by decide +kernel
theorem dX3_produce_8 : decode cX3_produce 8 = .ok (.aaload, 1) := by decide +kernel
theorem dX3_produce_9 : decode cX3_produce 9 = .ok (.astore_n 2, 1) := by decide +kernel
theorem dX3_produce_10 : decode cX3_produce 10 = .ok (.aload_n 2, 1) := by decide +kernel
theorem dX3_produce_11 : decode cX3_produce 11 = .ok (.invokevirtual 210, 3) := by decide +kernel
theorem dX3_produce_14 : decode cX3_produce 14 = .ok (.istore_n 3, 1) := by decide +kernel
theorem dX3_produce_15 : decode cX3_produce 15 = .ok (.aload_n 2, 1) := by decide +kernel
theorem dX3_produce_16 : decode cX3_produce 16 = .ok (.invokevirtual 186, 3) := by decide +kernel
theorem dX3_produce_19 : decode cX3_produce 19 = .ok (.bipush 40, 2) := by decide +kernel
theorem dX3_produce_21 : decode cX3_produce 21 = .ok (.isub, 1) := by decide +kernel
theorem dX3_produce_22 : decode cX3_produce 22 = .ok (.iconst 3, 1) := by decide +kernel
theorem dX3_produce_23 : decode cX3_produce 23 = .ok (.aload_n 1, 1) := by decide +kernel
theorem dX3_produce_24 : decode cX3_produce 24 = .ok (.getfield 223, 3) := by decide +kernel
theorem dX3_produce_27 : decode cX3_produce 27 = .ok (.imul, 1) := by decide +kernel
theorem dX3_produce_28 : decode cX3_produce 28 = .ok (.isub, 1) := by decide +kernel
theorem dX3_produce_29 : decode cX3_produce 29 = .ok (.iconst 0, 1) := by decide +kernel
theorem dX3_produce_30 : decode cX3_produce 30 = .ok (.invokestatic 226, 3) := by decide +kernel
theorem dX3_produce_33 : decode cX3_produce 33 = .ok (.istore 4, 2) := by decide +kernel
theorem dX3_produce_35 : decode cX3_produce 35 = .ok (.aload_n 2, 1) := by decide +kernel
theorem dX3_produce_36 : decode cX3_produce 36 = .ok (.iload 4, 2) := by decide +kernel
theorem dX3_produce_38 : decode cX3_produce 38 = .ok (.aload_n 1, 1) := by decide +kernel
theorem dX3_produce_39 : decode cX3_produce 39 = .ok (.getfield 143, 3) := by decide +kernel
theorem dX3_produce_42 : decode cX3_produce 42 = .ok (.imul, 1) := by decide +kernel
theorem dX3_produce_43 : decode cX3_produce 43 = .ok (.bipush 20, 2) := by decide +kernel
theorem dX3_produce_45 : decode cX3_produce 45 = .ok (.idiv, 1) := by decide +kernel
theorem dX3_produce_46 : decode cX3_produce 46 = .ok (.aload_n 0, 1) := by decide +kernel
theorem dX3_produce_47 : decode cX3_produce 47 = .ok (.getfield 63, 3) := by decide +kernel
theorem dX3_produce_50 : decode cX3_produce 50 = .ok (.invokevirtual 197, 3) := by decide +kernel
theorem dX3_produce_53 : decode cX3_produce 53 = .ok (.aload_n 0, 1) := by decide +kernel
theorem dX3_produce_54 : decode cX3_produce 54 = .ok (.getfield 63, 3) := by decide +kernel
theorem dX3_produce_57 : decode cX3_produce 57 = .ok (.getfield 204, 3) := by decide +kernel
theorem dX3_produce_60 : decode cX3_produce 60 = .ok (.iload_n 3, 1) := by decide +kernel
theorem dX3_produce_61 : decode cX3_produce 61 = .ok (.bipush 100, 2) := by decide +kernel
theorem dX3_produce_63 : decode cX3_produce 63 = .ok (.isub, 1) := by decide +kernel
theorem dX3_produce_64 : decode cX3_produce 64 = .ok (.iconst 0, 1) := by decide +kernel
theorem dX3_produce_65 : decode cX3_produce 65 = .ok (.invokestatic 226, 3) := by decide +kernel
theorem dX3_produce_68 : decode cX3_produce 68 = .ok (.imul, 1) := by decide +kernel
theorem dX3_produce_69 : decode cX3_produce 69 = .ok (.sipush 400, 3) := by decide +kernel
theorem dX3_produce_72 : decode cX3_produce 72 = .ok (.idiv, 1) := by decide +kernel
theorem dX3_produce_73 : decode cX3_produce 73 = .ok (.aload_n 0, 1) := by decide +kernel
theorem dX3_produce_74 : decode cX3_produce 74 = .ok (.getfield 63, 3) := by decide +kernel
theorem dX3_produce_77 : decode cX3_produce 77 = .ok (.getfield 204, 3) := by decide +kernel
theorem dX3_produce_80 : decode cX3_produce 80 = .ok (.invokestatic 216, 3) := by decide +kernel
theorem dX3_produce_83 : decode cX3_produce 83 = .ok (.istore 5, 2) := by decide +kernel
theorem dX3_produce_85 : decode cX3_produce 85 = .ok (.aload_n 0, 1) := by decide +kernel
theorem dX3_produce_86 : decode cX3_produce 86 = .ok (.getfield 63, 3) := by decide +kernel
theorem dX3_produce_89 : decode cX3_produce 89 = .ok (.getfield 204, 3) := by decide +kernel
theorem dX3_produce_92 : decode cX3_produce 92 = .ok (.iload 5, 2) := by decide +kernel
theorem dX3_produce_94 : decode cX3_produce 94 = .ok (.isub, 1) := by decide +kernel
theorem dX3_produce_95 : decode cX3_produce 95 = .ok (.istore 6, 2) := by decide +kernel
theorem dX3_produce_97 : decode cX3_produce 97 = .ok (.aload_n 1, 1) := by decide +kernel
theorem dX3_produce_98 : decode cX3_produce 98 = .ok (.aload_n 0, 1) := by decide +kernel
theorem dX3_produce_99 : decode cX3_produce 99 = .ok (.getfield 63, 3) := by decide +kernel
theorem dX3_produce_102 : decode cX3_produce 102 = .ok (.iload 5, 2) := by decide +kernel
theorem dX3_produce_104 : decode cX3_produce 104 = .ok (.invokevirtual 229, 3) := by decide +kernel
theorem dX3_produce_107 : decode cX3_produce 107 = .ok (.bipush 10, 2) := by decide +kernel
theorem dX3_produce_109 : decode cX3_produce 109 = .ok (.aload_n 0, 1) := by decide +kernel
theorem dX3_produce_110 : decode cX3_produce 110 = .ok (.getfield 63, 3) := by decide +kernel
theorem dX3_produce_113 : decode cX3_produce 113 = .ok (.getfield 233, 3) := by decide +kernel
theorem dX3_produce_116 : decode cX3_produce 116 = .ok (.imul, 1) := by decide +kernel
theorem dX3_produce_117 : decode cX3_produce 117 = .ok (.bipush 30, 2) := by decide +kernel
theorem dX3_produce_119 : decode cX3_produce 119 = .ok (.iload 6, 2) := by decide +kernel
theorem dX3_produce_121 : decode cX3_produce 121 = .ok (.imul, 1) := by decide +kernel
theorem dX3_produce_122 : decode cX3_produce 122 = .ok (.if_icmp .le 7, 3) := by decide +kernel
theorem dX3_produce_125 : decode cX3_produce 125 = .ok (.aload_n 1, 1) := by decide +kernel
theorem dX3_produce_126 : decode cX3_produce 126 = .ok (.invokevirtual 236, 3) := by decide +kernel
theorem dX3_produce_129 : decode cX3_produce 129 = .ok (.aload_n 0, 1) := by decide +kernel
theorem dX3_produce_130 : decode cX3_produce 130 = .ok (.getfield 63, 3) := by decide +kernel
theorem dX3_produce_133 : decode cX3_produce 133 = .ok (.iload 6, 2) := by decide +kernel
theorem dX3_produce_135 : decode cX3_produce 135 = .ok (.putfield 204, 3) := by decide +kernel
theorem dX3_produce_138 : decode cX3_produce 138 = .ok (.aload_n 0, 1) := by decide +kernel
theorem dX3_produce_139 : decode cX3_produce 139 = .ok (.getfield 63, 3) := by decide +kernel
theorem dX3_produce_142 : decode cX3_produce 142 = .ok (.iload 6, 2) := by decide +kernel
theorem dX3_produce_144 : decode cX3_produce 144 = .ok (.iload_n 3, 1) := by decide +kernel
theorem dX3_produce_145 : decode cX3_produce 145 = .ok (.bipush 100, 2) := by decide +kernel
theorem dX3_produce_147 : decode cX3_produce 147 = .ok (.invokestatic 216, 3) := by decide +kernel
theorem dX3_produce_150 : decode cX3_produce 150 = .ok (.imul, 1) := by decide +kernel
theorem dX3_produce_151 : decode cX3_produce 151 = .ok (.putfield 213, 3) := by decide +kernel
theorem dX3_produce_154 : decode cX3_produce 154 = .ok (.aload_n 0, 1) := by decide +kernel
theorem dX3_produce_155 : decode cX3_produce 155 = .ok (.getfield 38, 3) := by decide +kernel
theorem dX3_produce_158 : decode cX3_produce 158 = .ok (.aload_n 0, 1) := by decide +kernel
theorem dX3_produce_159 : decode cX3_produce 159 = .ok (.getfield 63, 3) := by decide +kernel
theorem dX3_produce_162 : decode cX3_produce 162 = .ok (.invokevirtual 201, 3) := by decide +kernel
theorem dX3_produce_165 : decode cX3_produce 165 = .ok (.iload 5, 2) := by decide +kernel
theorem dX3_produce_167 : decode cX3_produce 167 = .ok (.ireturn, 1) := by decide +kernel
theorem dX3_drive_0 : decode cX3_drive 0 = .ok (.aload_n 0, 1) := by decide +kernel
theorem dX3_drive_1 : decode cX3_drive 1 = .ok (.getfield 45, 3) := by decide +kernel
theorem dX3_drive_4 : decode cX3_drive 4 = .ok (.getfield 239, 3) := by decide +kernel
theorem dX3_drive_7 : decode cX3_drive 7 = .ok (.ifCond .eq 17, 3) := by decide +kernel
theorem dX3_drive_10 : decode cX3_drive 10 = .ok (.iload_n 1, 1) := by decide +kernel
theorem dX3_drive_11 : decode cX3_drive 11 = .ok (.aload_n 0, 1) := by decide +kernel
theorem dX3_drive_12 : decode cX3_drive 12 = .ok (.getfield 45, 3) := by decide +kernel
theorem dX3_drive_15 : decode cX3_drive 15 = .ok (.getfield 242, 3) := by decide +kernel
theorem dX3_drive_18 : decode cX3_drive 18 = .ok (.invokestatic 216, 3) := by decide +kernel
theorem dX3_drive_21 : decode cX3_drive 21 = .ok (.goto 4, 3) := by decide +kernel
theorem dX3_drive_24 : decode cX3_drive 24 = .ok (.iconst 0, 1) := by decide +kernel
theorem dX3_drive_25 : decode cX3_drive 25 = .ok (.istore_n 2, 1) := by decide +kernel
theorem dX3_drive_26 : decode cX3_drive 26 = .ok (.aload_n 0, 1) := by decide +kernel
theorem dX3_drive_27 : decode cX3_drive 27 = .ok (.getfield 45, 3) := by decide +kernel
theorem dX3_drive_30 : decode cX3_drive 30 = .ok (.iconst 2, 1) := by decide +kernel
theorem dX3_drive_31 : decode cX3_drive 31 = .ok (.iload_n 2, 1) := by decide +kernel
theorem dX3_drive_32 : decode cX3_drive 32 = .ok (.imul, 1) := by decide +kernel
theorem dX3_drive_33 : decode cX3_drive 33 = .ok (.putfield 245, 3) := by decide +kernel
theorem dX3_drive_36 : decode cX3_drive 36 = .ok (.aload_n 0, 1) := by decide +kernel
theorem dX3_drive_37 : decode cX3_drive 37 = .ok (.getfield 45, 3) := by decide +kernel
theorem dX3_drive_40 : decode cX3_drive 40 = .ok (.dup, 1) := by decide +kernel
theorem dX3_drive_41 : decode cX3_drive 41 = .ok (.getfield 248, 3) := by decide +kernel
theorem dX3_drive_44 : decode cX3_drive 44 = .ok (.aload_n 0, 1) := by decide +kernel
theorem dX3_drive_45 : decode cX3_drive 45 = .ok (.getfield 45, 3) := by decide +kernel
theorem dX3_drive_48 : decode cX3_drive 48 = .ok (.getfield 245, 3) := by decide +kernel
theorem dX3_drive_51 : decode cX3_drive 51 = .ok (.iadd, 1) := by decide +kernel
theorem dX3_drive_52 : decode cX3_drive 52 = .ok (.putfield 248, 3) := by decide +kernel
theorem dX3_drive_55 : decode cX3_drive 55 = .ok (.aload_n 0, 1) := by decide +kernel
theorem dX3_drive_56 : decode cX3_drive 56 = .ok (.getfield 52, 3) := by decide +kernel
theorem dX3_drive_59 : decode cX3_drive 59 = .ok (.dup, 1) := by decide +kernel
theorem dX3_drive_60 : decode cX3_drive 60 = .ok (.getfield 251, 3) := by decide +kernel
theorem dX3_drive_63 : decode cX3_drive 63 = .ok (.iload_n 2, 1) := by decide +kernel
theorem dX3_drive_64 : decode cX3_drive 64 = .ok (.iadd, 1) := by decide +kernel
theorem dX3_drive_65 : decode cX3_drive 65 = .ok (.putfield 251, 3) := by decide +kernel
theorem dX3_drive_68 : decode cX3_drive 68 = .ok (.aload_n 0, 1) := by decide +kernel
theorem dX3_drive_69 : decode cX3_drive 69 = .ok (.getfield 52, 3) := by decide +kernel
theorem dX3_drive_72 : decode cX3_drive 72 = .ok (.dup, 1) := by decide +kernel
theorem dX3_drive_73 : decode cX3_drive 73 = .ok (.getfield 254, 3) := by decide +kernel
theorem dX3_drive_76 : decode cX3_drive 76 = .ok (.iload_n 1, 1) := by decide +kernel
theorem dX3_drive_77 : decode cX3_drive 77 = .ok (.iload_n 2, 1) := by decide +kernel
theorem dX3_drive_78 : decode cX3_drive 78 = .ok (.isub, 1) := by decide +kernel
theorem dX3_drive_79 : decode cX3_drive 79 = .ok (.iadd, 1) := by decide +kernel
theorem dX3_drive_80 : decode cX3_drive 80 = .ok (.putfield 254, 3) := by decide +kernel
theorem dX3_drive_83 : decode cX3_drive 83 = .ok (.iload_n 1, 1) := by decide +kernel
theorem dX3_drive_84 : decode cX3_drive 84 = .ok (.iconst 2, 1) := by decide +kernel
theorem dX3_drive_85 : decode cX3_drive 85 = .ok (.aload_n 0, 1) := by decide +kernel
theorem dX3_drive_86 : decode cX3_drive 86 = .ok (.getfield 45, 3) := by decide +kernel
theorem dX3_drive_89 : decode cX3_drive 89 = .ok (.getfield 242, 3) := by decide +kernel
theorem dX3_drive_92 : decode cX3_drive 92 = .ok (.imul, 1) := by decide +kernel
theorem dX3_drive_93 : decode cX3_drive 93 = .ok (.if_icmp .le 21, 3) := by decide +kernel
theorem dX3_drive_96 : decode cX3_drive 96 = .ok (.aload_n 0, 1) := by decide +kernel
theorem dX3_drive_97 : decode cX3_drive 97 = .ok (.getfield 45, 3) := by decide +kernel
theorem dX3_drive_100 : decode cX3_drive 100 = .ok (.getfield 242, 3) := by decide +kernel
theorem dX3_drive_103 : decode cX3_drive 103 = .ok (.ifCond .le 11, 3) := by decide +kernel
theorem dX3_drive_106 : decode cX3_drive 106 = .ok (.aload_n 0, 1) := by decide +kernel
theorem dX3_drive_107 : decode cX3_drive 107 = .ok (.getfield 45, 3) := by decide +kernel
theorem dX3_drive_110 : decode cX3_drive 110 = .ok (.iconst 0, 1) := by decide +kernel
theorem dX3_drive_111 : decode cX3_drive 111 = .ok (.putfield 239, 3) := by decide +kernel
theorem dX3_drive_114 : decode cX3_drive 114 = .ok (.return_, 1) := by decide +kernel
theorem dX3_warmTheTown_0 : decode cX3_warmTheTown 0 = .ok (.aload_n 0, 1) := by decide +kernel
theorem dX3_warmTheTown_1 : decode cX3_warmTheTown 1 = .ok (.getfield 38, 3) := by decide +kernel
theorem dX3_warmTheTown_4 : decode cX3_warmTheTown 4 = .ok (.getfield 213, 3) := by decide +kernel
theorem dX3_warmTheTown_7 : decode cX3_warmTheTown 7 = .ok (.bipush 30, 2) := by decide +kernel
theorem dX3_warmTheTown_9 : decode cX3_warmTheTown 9 = .ok (.aload_n 0, 1) := by decide +kernel
theorem dX3_warmTheTown_10 : decode cX3_warmTheTown 10 = .ok (.getfield 38, 3) := by decide +kernel
theorem dX3_warmTheTown_13 : decode cX3_warmTheTown 13 = .ok (.getfield 204, 3) := by decide +kernel
theorem dX3_warmTheTown_16 : decode cX3_warmTheTown 16 = .ok (.imul, 1) := by decide +kernel
theorem dX3_warmTheTown_17 : decode cX3_warmTheTown 17 = .ok (.isub, 1) := by decide +kernel
theorem dX3_warmTheTown_18 : decode cX3_warmTheTown 18 = .ok (.iconst 0, 1) := by decide +kernel
theorem dX3_warmTheTown_19 : decode cX3_warmTheTown 19 = .ok (.invokestatic 226, 3) := by decide +kernel
theorem dX3_warmTheTown_22 : decode cX3_warmTheTown 22 = .ok (.istore_n 1, 1) := by decide +kernel
theorem dX3_warmTheTown_23 : decode cX3_warmTheTown 23 = .ok (.aload_n 0, 1) := by decide +kernel
theorem dX3_warmTheTown_24 : decode cX3_warmTheTown 24 = .ok (.getfield 45, 3) := by decide +kernel
theorem dX3_warmTheTown_27 : decode cX3_warmTheTown 27 = .ok (.aload_n 0, 1) := by decide +kernel
theorem dX3_warmTheTown_28 : decode cX3_warmTheTown 28 = .ok (.getfield 45, 3) := by decide +kernel
theorem dX3_warmTheTown_31 : decode cX3_warmTheTown 31 = .ok (.getfield 257, 3) := by decide +kernel
theorem dX3_warmTheTown_34 : decode cX3_warmTheTown 34 = .ok (.iload_n 1, 1) := by decide +kernel
theorem dX3_warmTheTown_35 : decode cX3_warmTheTown 35 = .ok (.invokestatic 216, 3) := by decide +kernel
theorem dX3_warmTheTown_38 : decode cX3_warmTheTown 38 = .ok (.putfield 260, 3) := by decide +kernel
theorem dX3_warmTheTown_41 : decode cX3_warmTheTown 41 = .ok (.aload_n 0, 1) := by decide +kernel
theorem dX3_warmTheTown_42 : decode cX3_warmTheTown 42 = .ok (.getfield 38, 3) := by decide +kernel
theorem dX3_warmTheTown_45 : decode cX3_warmTheTown 45 = .ok (.dup, 1) := by decide +kernel
theorem dX3_warmTheTown_46 : decode cX3_warmTheTown 46 = .ok (.getfield 213, 3) := by decide +kernel
theorem dX3_warmTheTown_49 : decode cX3_warmTheTown 49 = .ok (.aload_n 0, 1) := by decide +kernel
theorem dX3_warmTheTown_50 : decode cX3_warmTheTown 50 = .ok (.getfield 45, 3) := by decide +kernel
theorem dX3_warmTheTown_53 : decode cX3_warmTheTown 53 = .ok (.getfield 260, 3) := by decide +kernel
theorem dX3_warmTheTown_56 : decode cX3_warmTheTown 56 = .ok (.isub, 1) := by decide +kernel
theorem dX3_warmTheTown_57 : decode cX3_warmTheTown 57 = .ok (.putfield 213, 3) := by decide +kernel
theorem dX3_warmTheTown_60 : decode cX3_warmTheTown 60 = .ok (.return_, 1) := by decide +kernel
theorem dX3_spill_0 : decode cX3_spill 0 = .ok (.aload_n 0, 1) := by decide +kernel
theorem dX3_spill_1 : decode cX3_spill 1 = .ok (.aload_n 0, 1) := by decide +kernel
theorem dX3_spill_2 : decode cX3_spill 2 = .ok (.getfield 38, 3) := by decide +kernel
theorem dX3_spill_5 : decode cX3_spill 5 = .ok (.getfield 204, 3) := by decide +kernel
theorem dX3_spill_8 : decode cX3_spill 8 = .ok (.sipush 500, 3) := by decide +kernel
theorem dX3_spill_11 : decode cX3_spill 11 = .ok (.isub, 1) := by decide +kernel
theorem dX3_spill_12 : decode cX3_spill 12 = .ok (.iconst 0, 1) := by decide +kernel
theorem dX3_spill_13 : decode cX3_spill 13 = .ok (.invokestatic 226, 3) := by decide +kernel
theorem dX3_spill_16 : decode cX3_spill 16 = .ok (.invokevirtual 263, 3) := by decide +kernel
theorem dX3_spill_19 : decode cX3_spill 19 = .ok (.aload_n 0, 1) := by decide +kernel
theorem dX3_spill_20 : decode cX3_spill 20 = .ok (.getfield 52, 3) := by decide +kernel
theorem dX3_spill_23 : decode cX3_spill 23 = .ok (.getfield 133, 3) := by decide +kernel
theorem dX3_spill_26 : decode cX3_spill 26 = .ok (.aload_n 0, 1) := by decide +kernel
theorem dX3_spill_27 : decode cX3_spill 27 = .ok (.getfield 63, 3) := by decide +kernel
theorem dX3_spill_30 : decode cX3_spill 30 = .ok (.invokevirtual 201, 3) := by decide +kernel
theorem dX3_spill_33 : decode cX3_spill 33 = .ok (.return_, 1) := by decide +kernel
theorem dX3_drain_0 : decode cX3_drain 0 = .ok (.aload_n 0, 1) := by decide +kernel
theorem dX3_drain_1 : decode cX3_drain 1 = .ok (.getfield 63, 3) := by decide +kernel
theorem dX3_drain_4 : decode cX3_drain 4 = .ok (.iload_n 1, 1) := by decide +kernel
theorem dX3_drain_5 : decode cX3_drain 5 = .ok (.putfield 204, 3) := by decide +kernel
theorem dX3_drain_8 : decode cX3_drain 8 = .ok (.aload_n 0, 1) := by decide +kernel
theorem dX3_drain_9 : decode cX3_drain 9 = .ok (.getfield 63, 3) := by decide +kernel
theorem dX3_drain_12 : decode cX3_drain 12 = .ok (.aload_n 0, 1) := by decide +kernel
theorem dX3_drain_13 : decode cX3_drain 13 = .ok (.getfield 38, 3) := by decide +kernel
theorem dX3_drain_16 : decode cX3_drain 16 = .ok (.aload_n 0, 1) := by decide +kernel
theorem dX3_drain_17 : decode cX3_drain 17 = .ok (.getfield 38, 3) := by decide +kernel
theorem dX3_drain_20 : decode cX3_drain 20 = .ok (.getfield 213, 3) := by decide +kernel
theorem dX3_drain_23 : decode cX3_drain 23 = .ok (.iload_n 1, 1) := by decide +kernel
theorem dX3_drain_24 : decode cX3_drain 24 = .ok (.invokevirtual 266, 3) := by decide +kernel
theorem dX3_drain_27 : decode cX3_drain 27 = .ok (.putfield 213, 3) := by decide +kernel
theorem dX3_drain_30 : decode cX3_drain 30 = .ok (.aload_n 0, 1) := by decide +kernel
theorem dX3_drain_31 : decode cX3_drain 31 = .ok (.getfield 63, 3) := by decide +kernel
theorem dX3_drain_34 : decode cX3_drain 34 = .ok (.aload_n 0, 1) := by decide +kernel
theorem dX3_drain_35 : decode cX3_drain 35 = .ok (.getfield 38, 3) := by decide +kernel
theorem dX3_drain_38 : decode cX3_drain 38 = .ok (.aload_n 0, 1) := by decide +kernel
theorem dX3_drain_39 : decode cX3_drain 39 = .ok (.getfield 38, 3) := by decide +kernel
theorem dX3_drain_42 : decode cX3_drain 42 = .ok (.getfield 233, 3) := by decide +kernel
theorem dX3_drain_45 : decode cX3_drain 45 = .ok (.iload_n 1, 1) := by decide +kernel
theorem dX3_drain_46 : decode cX3_drain 46 = .ok (.invokevirtual 266, 3) := by decide +kernel
theorem dX3_drain_49 : decode cX3_drain 49 = .ok (.putfield 233, 3) := by decide +kernel
theorem dX3_drain_52 : decode cX3_drain 52 = .ok (.aload_n 0, 1) := by decide +kernel
theorem dX3_drain_53 : decode cX3_drain 53 = .ok (.getfield 63, 3) := by decide +kernel
theorem dX3_drain_56 : decode cX3_drain 56 = .ok (.aload_n 0, 1) := by decide +kernel
theorem dX3_drain_57 : decode cX3_drain 57 = .ok (.getfield 38, 3) := by decide +kernel
theorem dX3_drain_60 : decode cX3_drain 60 = .ok (.aload_n 0, 1) := by decide +kernel
theorem dX3_drain_61 : decode cX3_drain 61 = .ok (.getfield 38, 3) := by decide +kernel
theorem dX3_drain_64 : decode cX3_drain 64 = .ok (.getfield 269, 3) := by decide +kernel
theorem dX3_drain_67 : decode cX3_drain 67 = .ok (.iload_n 1, 1) := by decide +kernel
theorem dX3_drain_68 : decode cX3_drain 68 = .ok (.invokevirtual 266, 3) := by decide +kernel
theorem dX3_drain_71 : decode cX3_drain 71 = .ok (.putfield 269, 3) := by decide +kernel
theorem dX3_drain_74 : decode cX3_drain 74 = .ok (.aload_n 0, 1) := by decide +kernel
theorem dX3_drain_75 : decode cX3_drain 75 = .ok (.getfield 38, 3) := by decide +kernel
theorem dX3_drain_78 : decode cX3_drain 78 = .ok (.aload_n 0, 1) := by decide +kernel
theorem dX3_drain_79 : decode cX3_drain 79 = .ok (.getfield 63, 3) := by decide +kernel
theorem dX3_drain_82 : decode cX3_drain 82 = .ok (.invokevirtual 272, 3) := by decide +kernel
theorem dX3_drain_85 : decode cX3_drain 85 = .ok (.return_, 1) := by decide +kernel
theorem dX3_inject_0 : decode cX3_inject 0 = .ok (.iconst 4, 1) := by decide +kernel
theorem dX3_inject_1 : decode cX3_inject 1 = .ok (.aload_n 1, 1) := by decide +kernel
theorem dX3_inject_2 : decode cX3_inject 2 = .ok (.getfield 143, 3) := by decide +kernel
theorem dX3_inject_5 : decode cX3_inject 5 = .ok (.imul, 1) := by decide +kernel
theorem dX3_inject_6 : decode cX3_inject 6 = .ok (.istore_n 3, 1) := by decide +kernel
theorem dX3_inject_7 : decode cX3_inject 7 = .ok (.iload_n 2, 1) := by decide +kernel
theorem dX3_inject_8 : decode cX3_inject 8 = .ok (.ifCond .eq 16, 3) := by decide +kernel
theorem dX3_inject_11 : decode cX3_inject 11 = .ok (.iload_n 2, 1) := by decide +kernel
theorem dX3_inject_12 : decode cX3_inject 12 = .ok (.iconst 1, 1) := by decide +kernel
theorem dX3_inject_13 : decode cX3_inject 13 = .ok (.if_icmp .ne 9, 3) := by decide +kernel
theorem dX3_inject_16 : decode cX3_inject 16 = .ok (.iload_n 3, 1) := by decide +kernel
theorem dX3_inject_17 : decode cX3_inject 17 = .ok (.iconst 2, 1) := by decide +kernel
theorem dX3_inject_18 : decode cX3_inject 18 = .ok (.idiv, 1) := by decide +kernel
theorem dX3_inject_19 : decode cX3_inject 19 = .ok (.goto 4, 3) := by decide +kernel
theorem dX3_inject_22 : decode cX3_inject 22 = .ok (.iconst 0, 1) := by decide +kernel
theorem dX3_inject_23 : decode cX3_inject 23 = .ok (.istore_n 3, 1) := by decide +kernel
theorem dX3_inject_24 : decode cX3_inject 24 = .ok (.aload_n 0, 1) := by decide +kernel
theorem dX3_inject_25 : decode cX3_inject 25 = .ok (.iload_n 3, 1) := by decide +kernel
theorem dX3_inject_26 : decode cX3_inject 26 = .ok (.aload_n 0, 1) := by decide +kernel
theorem dX3_inject_27 : decode cX3_inject 27 = .ok (.getfield 38, 3) := by decide +kernel
theorem dX3_inject_30 : decode cX3_inject 30 = .ok (.getfield 204, 3) := by decide +kernel
theorem dX3_inject_33 : decode cX3_inject 33 = .ok (.invokestatic 216, 3) := by decide +kernel
theorem dX3_inject_36 : decode cX3_inject 36 = .ok (.invokevirtual 263, 3) := by decide +kernel
theorem dX3_inject_39 : decode cX3_inject 39 = .ok (.aload_n 0, 1) := by decide +kernel
theorem dX3_inject_40 : decode cX3_inject 40 = .ok (.getfield 11, 3) := by decide +kernel
theorem dX3_inject_43 : decode cX3_inject 43 = .ok (.aload_n 1, 1) := by decide +kernel
theorem dX3_inject_44 : decode cX3_inject 44 = .ok (.getfield 220, 3) := by decide +kernel
theorem dX3_inject_47 : decode cX3_inject 47 = .ok (.aaload, 1) := by decide +kernel
theorem dX3_inject_48 : decode cX3_inject 48 = .ok (.astore 4, 2) := by decide +kernel
theorem dX3_inject_50 : decode cX3_inject 50 = .ok (.aload 4, 2) := by decide +kernel
theorem dX3_inject_52 : decode cX3_inject 52 = .ok (.invokevirtual 186, 3) := by decide +kernel
theorem dX3_inject_55 : decode cX3_inject 55 = .ok (.istore 5, 2) := by decide +kernel
theorem dX3_inject_57 : decode cX3_inject 57 = .ok (.aload 4, 2) := by decide +kernel
theorem dX3_inject_59 : decode cX3_inject 59 = .ok (.getfield 123, 3) := by decide +kernel
theorem dX3_inject_62 : decode cX3_inject 62 = .ok (.aload_n 0, 1) := by decide +kernel
theorem dX3_inject_63 : decode cX3_inject 63 = .ok (.getfield 63, 3) := by decide +kernel
theorem dX3_inject_66 : decode cX3_inject 66 = .ok (.invokevirtual 201, 3) := by decide +kernel
theorem dX3_inject_69 : decode cX3_inject 69 = .ok (.aload_n 1, 1) := by decide +kernel
theorem dX3_inject_70 : decode cX3_inject 70 = .ok (.aload_n 0, 1) := by decide +kernel
theorem dX3_inject_71 : decode cX3_inject 71 = .ok (.getfield 63, 3) := by decide +kernel
theorem dX3_inject_74 : decode cX3_inject 74 = .ok (.iconst 0, 1) := by decide +kernel
theorem dX3_inject_75 : decode cX3_inject 75 = .ok (.invokevirtual 229, 3) := by decide +kernel
theorem dX3_inject_78 : decode cX3_inject 78 = .ok (.aload 4, 2) := by decide +kernel
theorem dX3_inject_80 : decode cX3_inject 80 = .ok (.invokevirtual 186, 3) := by decide +kernel
theorem dX3_inject_83 : decode cX3_inject 83 = .ok (.iload 5, 2) := by decide +kernel
theorem dX3_inject_85 : decode cX3_inject 85 = .ok (.isub, 1) := by decide +kernel
theorem dX3_inject_86 : decode cX3_inject 86 = .ok (.istore 6, 2) := by decide +kernel
theorem dX3_inject_88 : decode cX3_inject 88 = .ok (.iload 6, 2) := by decide +kernel
theorem dX3_inject_90 : decode cX3_inject 90 = .ok (.iconst 5, 1) := by decide +kernel
theorem dX3_inject_91 : decode cX3_inject 91 = .ok (.if_icmp .lt 8, 3) := by decide +kernel
theorem dX3_inject_94 : decode cX3_inject 94 = .ok (.iload 6, 2) := by decide +kernel
theorem dX3_inject_96 : decode cX3_inject 96 = .ok (.goto 4, 3) := by decide +kernel
theorem dX3_inject_99 : decode cX3_inject 99 = .ok (.iconst 0, 1) := by decide +kernel
theorem dX3_inject_100 : decode cX3_inject 100 = .ok (.ireturn, 1) := by decide +kernel
theorem dX3_letFlow_0 : decode cX3_letFlow 0 = .ok (.aload_n 0, 1) := by decide +kernel
theorem dX3_letFlow_1 : decode cX3_letFlow 1 = .ok (.getfield 11, 3) := by decide +kernel
theorem dX3_letFlow_4 : decode cX3_letFlow 4 = .ok (.aload_n 1, 1) := by decide +kernel
theorem dX3_letFlow_5 : decode cX3_letFlow 5 = .ok (.getfield 275, 3) := by decide +kernel
theorem dX3_letFlow_8 : decode cX3_letFlow 8 = .ok (.aaload, 1) := by decide +kernel
theorem dX3_letFlow_9 : decode cX3_letFlow 9 = .ok (.astore_n 2, 1) := by decide +kernel
theorem dX3_letFlow_10 : decode cX3_letFlow 10 = .ok (.aload_n 2, 1) := by decide +kernel
theorem dX3_letFlow_11 : decode cX3_letFlow 11 = .ok (.aload_n 2, 1) := by decide +kernel
theorem dX3_letFlow_12 : decode cX3_letFlow 12 = .ok (.invokevirtual 186, 3) := by decide +kernel
theorem dX3_letFlow_15 : decode cX3_letFlow 15 = .ok (.aload_n 1, 1) := by decide +kernel
theorem dX3_letFlow_16 : decode cX3_letFlow 16 = .ok (.getfield 276, 3) := by decide +kernel
theorem dX3_letFlow_19 : decode cX3_letFlow 19 = .ok (.isub, 1) := by decide +kernel
theorem dX3_letFlow_20 : decode cX3_letFlow 20 = .ok (.iconst 0, 1) := by decide +kernel
theorem dX3_letFlow_21 : decode cX3_letFlow 21 = .ok (.invokestatic 226, 3) := by decide +kernel
theorem dX3_letFlow_24 : decode cX3_letFlow 24 = .ok (.iconst 5, 1) := by decide +kernel
theorem dX3_letFlow_25 : decode cX3_letFlow 25 = .ok (.idiv, 1) := by decide +kernel
theorem dX3_letFlow_26 : decode cX3_letFlow 26 = .ok (.aload_n 0, 1) := by decide +kernel
theorem dX3_letFlow_27 : decode cX3_letFlow 27 = .ok (.getfield 63, 3) := by decide +kernel
theorem dX3_letFlow_30 : decode cX3_letFlow 30 = .ok (.invokevirtual 197, 3) := by decide +kernel
theorem dX3_letFlow_33 : decode cX3_letFlow 33 = .ok (.aload_n 0, 1) := by decide +kernel
theorem dX3_letFlow_34 : decode cX3_letFlow 34 = .ok (.getfield 52, 3) := by decide +kernel
theorem dX3_letFlow_37 : decode cX3_letFlow 37 = .ok (.getfield 136, 3) := by decide +kernel
theorem dX3_letFlow_40 : decode cX3_letFlow 40 = .ok (.aload_n 0, 1) := by decide +kernel
theorem dX3_letFlow_41 : decode cX3_letFlow 41 = .ok (.getfield 63, 3) := by decide +kernel
theorem dX3_letFlow_44 : decode cX3_letFlow 44 = .ok (.invokevirtual 201, 3) := by decide +kernel
theorem dX3_letFlow_47 : decode cX3_letFlow 47 = .ok (.aload_n 1, 1) := by decide +kernel
theorem dX3_letFlow_48 : decode cX3_letFlow 48 = .ok (.aload_n 0, 1) := by decide +kernel
theorem dX3_letFlow_49 : decode cX3_letFlow 49 = .ok (.getfield 63, 3) := by decide +kernel
theorem dX3_letFlow_52 : decode cX3_letFlow 52 = .ok (.getfield 204, 3) := by decide +kernel
theorem dX3_letFlow_55 : decode cX3_letFlow 55 = .ok (.invokevirtual 279, 3) := by decide +kernel
theorem dX3_letFlow_58 : decode cX3_letFlow 58 = .ok (.return_, 1) := by decide +kernel
theorem dX3_shareOut_0 : decode cX3_shareOut 0 = .ok (.iconst 3, 1) := by decide +kernel
theorem dX3_shareOut_1 : decode cX3_shareOut 1 = .ok (.aload_n 0, 1) := by decide +kernel
theorem dX3_shareOut_2 : decode cX3_shareOut 2 = .ok (.getfield 45, 3) := by decide +kernel
theorem dX3_shareOut_5 : decode cX3_shareOut 5 = .ok (.getfield 245, 3) := by decide +kernel
theorem dX3_shareOut_8 : decode cX3_shareOut 8 = .ok (.imul, 1) := by decide +kernel
theorem dX3_shareOut_9 : decode cX3_shareOut 9 = .ok (.aload_n 0, 1) := by decide +kernel
theorem dX3_shareOut_10 : decode cX3_shareOut 10 = .ok (.getfield 45, 3) := by decide +kernel
theorem dX3_shareOut_13 : decode cX3_shareOut 13 = .ok (.getfield 260, 3) := by decide +kernel
theorem dX3_shareOut_16 : decode cX3_shareOut 16 = .ok (.bipush 100, 2) := by decide +kernel
theorem dX3_shareOut_18 : decode cX3_shareOut 18 = .ok (.idiv, 1) := by decide +kernel
theorem dX3_shareOut_19 : decode cX3_shareOut 19 = .ok (.iadd, 1) := by decide +kernel
theorem dX3_shareOut_20 : decode cX3_shareOut 20 = .ok (.istore_n 1, 1) := by decide +kernel
theorem dX3_shareOut_21 : decode cX3_shareOut 21 = .ok (.aload_n 0, 1) := by decide +kernel
theorem dX3_shareOut_22 : decode cX3_shareOut 22 = .ok (.iconst 0, 1) := by decide +kernel
theorem dX3_shareOut_23 : decode cX3_shareOut 23 = .ok (.invokevirtual 281, 3) := by decide +kernel
theorem dX3_shareOut_26 : decode cX3_shareOut 26 = .ok (.istore_n 2, 1) := by decide +kernel
theorem dX3_shareOut_27 : decode cX3_shareOut 27 = .ok (.iload_n 2, 1) := by decide +kernel
theorem dX3_shareOut_28 : decode cX3_shareOut 28 = .ok (.aload_n 0, 1) := by decide +kernel
theorem dX3_shareOut_29 : decode cX3_shareOut 29 = .ok (.iconst 1, 1) := by decide +kernel
theorem dX3_shareOut_30 : decode cX3_shareOut 30 = .ok (.invokevirtual 281, 3) := by decide +kernel
theorem dX3_shareOut_33 : decode cX3_shareOut 33 = .ok (.iadd, 1) := by decide +kernel
theorem dX3_shareOut_34 : decode cX3_shareOut 34 = .ok (.istore_n 3, 1) := by decide +kernel
theorem dX3_shareOut_35 : decode cX3_shareOut 35 = .ok (.iload_n 3, 1) := by decide +kernel
theorem dX3_shareOut_36 : decode cX3_shareOut 36 = .ok (.ifCond .le 11, 3) := by decide +kernel
theorem dX3_shareOut_39 : decode cX3_shareOut 39 = .ok (.iload_n 1, 1) := by decide +kernel
theorem dX3_shareOut_40 : decode cX3_shareOut 40 = .ok (.iload_n 2, 1) := by decide +kernel
theorem dX3_shareOut_41 : decode cX3_shareOut 41 = .ok (.imul, 1) := by decide +kernel
theorem dX3_shareOut_42 : decode cX3_shareOut 42 = .ok (.iload_n 3, 1) := by decide +kernel
theorem dX3_shareOut_43 : decode cX3_shareOut 43 = .ok (.idiv, 1) := by decide +kernel
theorem dX3_shareOut_44 : decode cX3_shareOut 44 = .ok (.goto 4, 3) := by decide +kernel
theorem dX3_shareOut_47 : decode cX3_shareOut 47 = .ok (.iconst 0, 1) := by decide +kernel
theorem dX3_shareOut_48 : decode cX3_shareOut 48 = .ok (.istore 4, 2) := by decide +kernel
theorem dX3_shareOut_50 : decode cX3_shareOut 50 = .ok (.aload_n 0, 1) := by decide +kernel
theorem dX3_shareOut_51 : decode cX3_shareOut 51 = .ok (.getfield 56, 3) := by decide +kernel
theorem dX3_shareOut_54 : decode cX3_shareOut 54 = .ok (.iconst 0, 1) := by decide +kernel
theorem dX3_shareOut_55 : decode cX3_shareOut 55 = .ok (.dup2, 1) := by decide +kernel
theorem dX3_shareOut_56 : decode cX3_shareOut 56 = .ok (.iaload, 1) := by decide +kernel
theorem dX3_shareOut_57 : decode cX3_shareOut 57 = .ok (.iload 4, 2) := by decide +kernel
theorem dX3_shareOut_59 : decode cX3_shareOut 59 = .ok (.iadd, 1) := by decide +kernel
theorem dX3_shareOut_60 : decode cX3_shareOut 60 = .ok (.iastore, 1) := by decide +kernel
theorem dX3_shareOut_61 : decode cX3_shareOut 61 = .ok (.aload_n 0, 1) := by decide +kernel
theorem dX3_shareOut_62 : decode cX3_shareOut 62 = .ok (.getfield 56, 3) := by decide +kernel
theorem dX3_shareOut_65 : decode cX3_shareOut 65 = .ok (.iconst 1, 1) := by decide +kernel
theorem dX3_shareOut_66 : decode cX3_shareOut 66 = .ok (.dup2, 1) := by decide +kernel
theorem dX3_shareOut_67 : decode cX3_shareOut 67 = .ok (.iaload, 1) := by decide +kernel
theorem dX3_shareOut_68 : decode cX3_shareOut 68 = .ok (.iload_n 1, 1) := by decide +kernel
theorem dX3_shareOut_69 : decode cX3_shareOut 69 = .ok (.iload 4, 2) := by decide +kernel
theorem dX3_shareOut_71 : decode cX3_shareOut 71 = .ok (.isub, 1) := by decide +kernel
theorem dX3_shareOut_72 : decode cX3_shareOut 72 = .ok (.iadd, 1) := by decide +kernel
theorem dX3_shareOut_73 : decode cX3_shareOut 73 = .ok (.iastore, 1) := by decide +kernel
theorem dX3_shareOut_74 : decode cX3_shareOut 74 = .ok (.return_, 1) := by decide +kernel
theorem dX3_payForLacks_0 : decode cX3_payForLacks 0 = .ok (.iconst 0, 1) := by decide +kernel
theorem dX3_payForLacks_1 : decode cX3_payForLacks 1 = .ok (.istore_n 1, 1) := by decide +kernel
theorem dX3_payForLacks_2 : decode cX3_payForLacks 2 = .ok (.iload_n 1, 1) := by decide +kernel
theorem dX3_payForLacks_3 : decode cX3_payForLacks 3 = .ok (.aload_n 0, 1) := by decide +kernel
theorem dX3_payForLacks_4 : decode cX3_payForLacks 4 = .ok (.getfield 108, 3) := by decide +kernel
theorem dX3_payForLacks_7 : decode cX3_payForLacks 7 = .ok (.if_icmp .ge 59, 3) := by decide +kernel
theorem dX3_payForLacks_10 : decode cX3_payForLacks 10 = .ok (.aload_n 0, 1) := by decide +kernel
theorem dX3_payForLacks_11 : decode cX3_payForLacks 11 = .ok (.getfield 31, 3) := by decide +kernel
theorem dX3_payForLacks_14 : decode cX3_payForLacks 14 = .ok (.iload_n 1, 1) := by decide +kernel
theorem dX3_payForLacks_15 : decode cX3_payForLacks 15 = .ok (.aaload, 1) := by decide +kernel
theorem dX3_payForLacks_16 : decode cX3_payForLacks 16 = .ok (.astore_n 2, 1) := by decide +kernel
theorem dX3_payForLacks_17 : decode cX3_payForLacks 17 = .ok (.aload_n 0, 1) := by decide +kernel
theorem dX3_payForLacks_18 : decode cX3_payForLacks 18 = .ok (.getfield 11, 3) := by decide +kernel
theorem dX3_payForLacks_21 : decode cX3_payForLacks 21 = .ok (.aload_n 2, 1) := by decide +kernel
theorem dX3_payForLacks_22 : decode cX3_payForLacks 22 = .ok (.getfield 275, 3) := by decide +kernel
theorem dX3_payForLacks_25 : decode cX3_payForLacks 25 = .ok (.aaload, 1) := by decide +kernel
theorem dX3_payForLacks_26 : decode cX3_payForLacks 26 = .ok (.getfield 114, 3) := by decide +kernel
theorem dX3_payForLacks_29 : decode cX3_payForLacks 29 = .ok (.istore_n 3, 1) := by decide +kernel
theorem dX3_payForLacks_30 : decode cX3_payForLacks 30 = .ok (.aload_n 0, 1) := by decide +kernel
theorem dX3_payForLacks_31 : decode cX3_payForLacks 31 = .ok (.getfield 56, 3) := by decide +kernel
theorem dX3_payForLacks_34 : decode cX3_payForLacks 34 = .ok (.iload_n 3, 1) := by decide +kernel
theorem dX3_payForLacks_35 : decode cX3_payForLacks 35 = .ok (.dup2, 1) := by decide +kernel
theorem dX3_payForLacks_36 : decode cX3_payForLacks 36 = .ok (.iaload, 1) := by decide +kernel
theorem dX3_payForLacks_37 : decode cX3_payForLacks 37 = .ok (.iconst 2, 1) := by decide +kernel
theorem dX3_payForLacks_38 : decode cX3_payForLacks 38 = .ok (.aload_n 2, 1) := by decide +kernel
theorem dX3_payForLacks_39 : decode cX3_payForLacks 39 = .ok (.getfield 283, 3) := by decide +kernel
theorem dX3_payForLacks_42 : decode cX3_payForLacks 42 = .ok (.imul, 1) := by decide +kernel
theorem dX3_payForLacks_43 : decode cX3_payForLacks 43 = .ok (.isub, 1) := by decide +kernel
theorem dX3_payForLacks_44 : decode cX3_payForLacks 44 = .ok (.iastore, 1) := by decide +kernel
theorem dX3_payForLacks_45 : decode cX3_payForLacks 45 = .ok (.aload_n 0, 1) := by decide +kernel
theorem dX3_payForLacks_46 : decode cX3_payForLacks 46 = .ok (.getfield 56, 3) := by decide +kernel
theorem dX3_payForLacks_49 : decode cX3_payForLacks 49 = .ok (.iconst 1, 1) := by decide +kernel
theorem dX3_payForLacks_50 : decode cX3_payForLacks 50 = .ok (.iload_n 3, 1) := by decide +kernel
theorem dX3_payForLacks_51 : decode cX3_payForLacks 51 = .ok (.isub, 1) := by decide +kernel
theorem dX3_payForLacks_52 : decode cX3_payForLacks 52 = .ok (.dup2, 1) := by decide +kernel
theorem dX3_payForLacks_53 : decode cX3_payForLacks 53 = .ok (.iaload, 1) := by decide +kernel
theorem dX3_payForLacks_54 : decode cX3_payForLacks 54 = .ok (.aload_n 2, 1) := by decide +kernel
theorem dX3_payForLacks_55 : decode cX3_payForLacks 55 = .ok (.getfield 283, 3) := by decide +kernel
theorem dX3_payForLacks_58 : decode cX3_payForLacks 58 = .ok (.isub, 1) := by decide +kernel
theorem dX3_payForLacks_59 : decode cX3_payForLacks 59 = .ok (.iastore, 1) := by decide +kernel
theorem dX3_payForLacks_60 : decode cX3_payForLacks 60 = .ok (.iinc 1 1, 3) := by decide +kernel
theorem dX3_payForLacks_63 : decode cX3_payForLacks 63 = .ok (.goto (-61), 3) := by decide +kernel
theorem dX3_payForLacks_66 : decode cX3_payForLacks 66 = .ok (.return_, 1) := by decide +kernel
end
section
theorem dX8_init_0 : decode cX8_init 0 = .ok (.aload_n 0, 1) := by decide +kernel
theorem dX8_init_1 : decode cX8_init 1 = .ok (.invokespecial 1, 3) := by decide +kernel
theorem dX8_init_4 : decode cX8_init 4 = .ok (.aload_n 0, 1) := by decide +kernel
theorem dX8_init_5 : decode cX8_init 5 = .ok (.new 7, 3) := by decide +kernel
theorem dX8_init_8 : decode cX8_init 8 = .ok (.dup, 1) := by decide +kernel
theorem dX8_init_9 : decode cX8_init 9 = .ok (.invokespecial 9, 3) := by decide +kernel
theorem dX8_init_12 : decode cX8_init 12 = .ok (.putfield 10, 3) := by decide +kernel
theorem dX8_init_15 : decode cX8_init 15 = .ok (.aload_n 0, 1) := by decide +kernel
theorem dX8_init_16 : decode cX8_init 16 = .ok (.new 7, 3) := by decide +kernel
theorem dX8_init_19 : decode cX8_init 19 = .ok (.dup, 1) := by decide +kernel
theorem dX8_init_20 : decode cX8_init 20 = .ok (.invokespecial 9, 3) := by decide +kernel
theorem dX8_init_23 : decode cX8_init 23 = .ok (.putfield 16, 3) := by decide +kernel
theorem dX8_init_26 : decode cX8_init 26 = .ok (.return_, 1) := by decide +kernel
theorem dX8_block_0 : decode cX8_block 0 = .ok (.iload_n 1, 1) := by decide +kernel
theorem dX8_block_1 : decode cX8_block 1 = .ok (.bipush 10, 2) := by decide +kernel
theorem dX8_block_3 : decode cX8_block 3 = .ok (.bipush 99, 2) := by decide +kernel
theorem dX8_block_5 : decode cX8_block 5 = .ok (.invokestatic 19, 3) := by decide +kernel
theorem dX8_block_8 : decode cX8_block 8 = .ok (.iload_n 2, 1) := by decide +kernel
theorem dX8_block_9 : decode cX8_block 9 = .ok (.iconst 0, 1) := by decide +kernel
theorem dX8_block_10 : decode cX8_block 10 = .ok (.iconst 1, 1) := by decide +kernel
theorem dX8_block_11 : decode cX8_block 11 = .ok (.invokestatic 19, 3) := by decide +kernel
theorem dX8_block_14 : decode cX8_block 14 = .ok (.iload_n 3, 1) := by decide +kernel
theorem dX8_block_15 : decode cX8_block 15 = .ok (.iconst 0, 1) := by decide +kernel
theorem dX8_block_16 : decode cX8_block 16 = .ok (.sipush 2000, 3) := by decide +kernel
theorem dX8_block_19 : decode cX8_block 19 = .ok (.invokestatic 19, 3) := by decide +kernel
theorem dX8_block_22 : decode cX8_block 22 = .ok (.iload 4, 2) := by decide +kernel
theorem dX8_block_24 : decode cX8_block 24 = .ok (.iconst 0, 1) := by decide +kernel
theorem dX8_block_25 : decode cX8_block 25 = .ok (.sipush 400, 3) := by decide +kernel
theorem dX8_block_28 : decode cX8_block 28 = .ok (.invokestatic 19, 3) := by decide +kernel
theorem dX8_block_31 : decode cX8_block 31 = .ok (.iload 5, 2) := by decide +kernel
theorem dX8_block_33 : decode cX8_block 33 = .ok (.iconst 0, 1) := by decide +kernel
theorem dX8_block_34 : decode cX8_block 34 = .ok (.sipush 9999, 3) := by decide +kernel
theorem dX8_block_37 : decode cX8_block 37 = .ok (.invokestatic 19, 3) := by decide +kernel
theorem dX8_block_40 : decode cX8_block 40 = .ok (.aload_n 0, 1) := by decide +kernel
theorem dX8_block_41 : decode cX8_block 41 = .ok (.getfield 10, 3) := by decide +kernel
theorem dX8_block_44 : decode cX8_block 44 = .ok (.getfield 23, 3) := by decide +kernel
theorem dX8_block_47 : decode cX8_block 47 = .ok (.bipush 8, 2) := by decide +kernel
theorem dX8_block_49 : decode cX8_block 49 = .ok (.invokestatic 27, 3) := by decide +kernel
theorem dX8_block_52 : decode cX8_block 52 = .ok (.aload_n 0, 1) := by decide +kernel
theorem dX8_block_53 : decode cX8_block 53 = .ok (.getfield 10, 3) := by decide +kernel
theorem dX8_block_56 : decode cX8_block 56 = .ok (.getfield 23, 3) := by decide +kernel
theorem dX8_block_59 : decode cX8_block 59 = .ok (.istore 6, 2) := by decide +kernel
theorem dX8_block_61 : decode cX8_block 61 = .ok (.aload_n 0, 1) := by decide +kernel
theorem dX8_block_62 : decode cX8_block 62 = .ok (.getfield 10, 3) := by decide +kernel
theorem dX8_block_65 : decode cX8_block 65 = .ok (.getfield 31, 3) := by decide +kernel
theorem dX8_block_68 : decode cX8_block 68 = .ok (.iload 6, 2) := by decide +kernel
theorem dX8_block_70 : decode cX8_block 70 = .ok (.aaload, 1) := by decide +kernel
theorem dX8_block_71 : decode cX8_block 71 = .ok (.astore 7, 2) := by decide +kernel
theorem dX8_block_73 : decode cX8_block 73 = .ok (.aload 7, 2) := by decide +kernel
theorem dX8_block_75 : decode cX8_block 75 = .ok (.iload_n 1, 1) := by decide +kernel
theorem dX8_block_76 : decode cX8_block 76 = .ok (.putfield 35, 3) := by decide +kernel
theorem dX8_block_79 : decode cX8_block 79 = .ok (.aload 7, 2) := by decide +kernel
theorem dX8_block_81 : decode cX8_block 81 = .ok (.iload_n 2, 1) := by decide +kernel
theorem dX8_block_82 : decode cX8_block 82 = .ok (.putfield 40, 3) := by decide +kernel
theorem dX8_block_85 : decode cX8_block 85 = .ok (.aload 7, 2) := by decide +kernel
theorem dX8_block_87 : decode cX8_block 87 = .ok (.getfield 43, 3) := by decide +kernel
theorem dX8_block_90 : decode cX8_block 90 = .ok (.iload_n 3, 1) := by decide +kernel
theorem dX8_block_91 : decode cX8_block 91 = .ok (.putfield 47, 3) := by decide +kernel
theorem dX8_block_94 : decode cX8_block 94 = .ok (.aload 7, 2) := by decide +kernel
theorem dX8_block_96 : decode cX8_block 96 = .ok (.getfield 43, 3) := by decide +kernel
theorem dX8_block_99 : decode cX8_block 99 = .ok (.iload 4, 2) := by decide +kernel
theorem dX8_block_101 : decode cX8_block 101 = .ok (.iload_n 1, 1) := by decide +kernel
theorem dX8_block_102 : decode cX8_block 102 = .ok (.iload_n 3, 1) := by decide +kernel
theorem dX8_block_103 : decode cX8_block 103 = .ok (.iadd, 1) := by decide +kernel
theorem dX8_block_104 : decode cX8_block 104 = .ok (.imul, 1) := by decide +kernel
theorem dX8_block_105 : decode cX8_block 105 = .ok (.putfield 52, 3) := by decide +kernel
theorem dX8_block_108 : decode cX8_block 108 = .ok (.aload 7, 2) := by decide +kernel
theorem dX8_block_110 : decode cX8_block 110 = .ok (.getfield 43, 3) := by decide +kernel
theorem dX8_block_113 : decode cX8_block 113 = .ok (.iload 5, 2) := by decide +kernel
theorem dX8_block_115 : decode cX8_block 115 = .ok (.putfield 55, 3) := by decide +kernel
theorem dX8_block_118 : decode cX8_block 118 = .ok (.aload_n 0, 1) := by decide +kernel
theorem dX8_block_119 : decode cX8_block 119 = .ok (.getfield 10, 3) := by decide +kernel
theorem dX8_block_122 : decode cX8_block 122 = .ok (.getfield 58, 3) := by decide +kernel
theorem dX8_block_125 : decode cX8_block 125 = .ok (.getfield 62, 3) := by decide +kernel
theorem dX8_block_128 : decode cX8_block 128 = .ok (.aload 7, 2) := by decide +kernel
theorem dX8_block_130 : decode cX8_block 130 = .ok (.getfield 43, 3) := by decide +kernel
theorem dX8_block_133 : decode cX8_block 133 = .ok (.invokevirtual 67, 3) := by decide +kernel
theorem dX8_block_136 : decode cX8_block 136 = .ok (.aload_n 0, 1) := by decide +kernel
theorem dX8_block_137 : decode cX8_block 137 = .ok (.getfield 10, 3) := by decide +kernel
theorem dX8_block_140 : decode cX8_block 140 = .ok (.iload 6, 2) := by decide +kernel
theorem dX8_block_142 : decode cX8_block 142 = .ok (.iconst 1, 1) := by decide +kernel
theorem dX8_block_143 : decode cX8_block 143 = .ok (.iadd, 1) := by decide +kernel
theorem dX8_block_144 : decode cX8_block 144 = .ok (.putfield 23, 3) := by decide +kernel
theorem dX8_block_147 : decode cX8_block 147 = .ok (.iload 6, 2) := by decide +kernel
theorem dX8_block_149 : decode cX8_block 149 = .ok (.ireturn, 1) := by decide +kernel
theorem dX8_face_0 : decode cX8_face 0 = .ok (.iload_n 1, 1) := by decide +kernel
theorem dX8_face_1 : decode cX8_face 1 = .ok (.aload_n 0, 1) := by decide +kernel
theorem dX8_face_2 : decode cX8_face 2 = .ok (.getfield 10, 3) := by decide +kernel
theorem dX8_face_5 : decode cX8_face 5 = .ok (.getfield 23, 3) := by decide +kernel
theorem dX8_face_8 : decode cX8_face 8 = .ok (.invokestatic 71, 3) := by decide +kernel
theorem dX8_face_11 : decode cX8_face 11 = .ok (.iload_n 2, 1) := by decide +kernel
theorem dX8_face_12 : decode cX8_face 12 = .ok (.aload_n 0, 1) := by decide +kernel
theorem dX8_face_13 : decode cX8_face 13 = .ok (.getfield 10, 3) := by decide +kernel
theorem dX8_face_16 : decode cX8_face 16 = .ok (.getfield 23, 3) := by decide +kernel
theorem dX8_face_19 : decode cX8_face 19 = .ok (.invokestatic 71, 3) := by decide +kernel
theorem dX8_face_22 : decode cX8_face 22 = .ok (.iload_n 1, 1) := by decide +kernel
theorem dX8_face_23 : decode cX8_face 23 = .ok (.iload_n 2, 1) := by decide +kernel
theorem dX8_face_24 : decode cX8_face 24 = .ok (.if_icmp .ne 13, 3) := by decide +kernel
theorem dX8_face_27 : decode cX8_face 27 = .ok (.new 74, 3) := by decide +kernel
theorem dX8_face_30 : decode cX8_face 30 = .ok (.dup, 1) := by decide +kernel
theorem dX8_face_31 : decode cX8_face 31 = .ok (.ldc 76, 2) := by decide +kernel
theorem dX8_face_33 : decode cX8_face 33 = .ok (.invokespecial 78, 3) := by decide +kernel
theorem dX8_face_36 : decode cX8_face 36 = .ok (.athrow, 1) := by decide +kernel
theorem dX8_face_37 : decode cX8_face 37 = .ok (.iload_n 3, 1) := by decide +kernel
theorem dX8_face_38 : decode cX8_face 38 = .ok (.iconst 1, 1) := by decide +kernel
theorem dX8_face_39 : decode cX8_face 39 = .ok (.bipush 9, 2) := by decide +kernel
theorem dX8_face_41 : decode cX8_face 41 = .ok (.invokestatic 19, 3) := by decide +kernel
theorem dX8_face_44 : decode cX8_face 44 = .ok (.aload_n 0, 1) := by decide +kernel
theorem dX8_face_45 : decode cX8_face 45 = .ok (.getfield 10, 3) := by decide +kernel
theorem dX8_face_48 : decode cX8_face 48 = .ok (.getfield 81, 3) := by decide +kernel
theorem dX8_face_51 : decode cX8_face 51 = .ok (.bipush 12, 2) := by decide +kernel
theorem dX8_face_53 : decode cX8_face 53 = .ok (.invokestatic 27, 3) := by decide +kernel
theorem dX8_face_56 : decode cX8_face 56 = .ok (.aload_n 0, 1) := by decide +kernel
theorem dX8_face_57 : decode cX8_face 57 = .ok (.getfield 10, 3) := by decide +kernel
theorem dX8_face_60 : decode cX8_face 60 = .ok (.getfield 81, 3) := by decide +kernel
theorem dX8_face_63 : decode cX8_face 63 = .ok (.istore 4, 2) := by decide +kernel
theorem dX8_face_65 : decode cX8_face 65 = .ok (.aload_n 0, 1) := by decide +kernel
theorem dX8_face_66 : decode cX8_face 66 = .ok (.getfield 10, 3) := by decide +kernel
theorem dX8_face_69 : decode cX8_face 69 = .ok (.getfield 84, 3) := by decide +kernel
theorem dX8_face_72 : decode cX8_face 72 = .ok (.iload 4, 2) := by decide +kernel
theorem dX8_face_74 : decode cX8_face 74 = .ok (.aaload, 1) := by decide +kernel
theorem dX8_face_75 : decode cX8_face 75 = .ok (.astore 5, 2) := by decide +kernel
theorem dX8_face_77 : decode cX8_face 77 = .ok (.aload 5, 2) := by decide +kernel
theorem dX8_face_79 : decode cX8_face 79 = .ok (.iload_n 1, 1) := by decide +kernel
theorem dX8_face_80 : decode cX8_face 80 = .ok (.putfield 88, 3) := by decide +kernel
theorem dX8_face_83 : decode cX8_face 83 = .ok (.aload 5, 2) := by decide +kernel
theorem dX8_face_85 : decode cX8_face 85 = .ok (.iload_n 2, 1) := by decide +kernel
theorem dX8_face_86 : decode cX8_face 86 = .ok (.putfield 93, 3) := by decide +kernel
theorem dX8_face_89 : decode cX8_face 89 = .ok (.aload 5, 2) := by decide +kernel
theorem dX8_face_91 : decode cX8_face 91 = .ok (.iload_n 3, 1) := by decide +kernel
theorem dX8_face_92 : decode cX8_face 92 = .ok (.putfield 96, 3) := by decide +kernel
theorem dX8_face_95 : decode cX8_face 95 = .ok (.aload_n 0, 1) := by decide +kernel
theorem dX8_face_96 : decode cX8_face 96 = .ok (.getfield 10, 3) := by decide +kernel
theorem dX8_face_99 : decode cX8_face 99 = .ok (.iload 4, 2) := by decide +kernel
theorem dX8_face_101 : decode cX8_face 101 = .ok (.iconst 1, 1) := by decide +kernel
theorem dX8_face_102 : decode cX8_face 102 = .ok (.iadd, 1) := by decide +kernel
theorem dX8_face_103 : decode cX8_face 103 = .ok (.putfield 81, 3) := by decide +kernel
theorem dX8_face_106 : decode cX8_face 106 = .ok (.iload 4, 2) := by decide +kernel
theorem dX8_face_108 : decode cX8_face 108 = .ok (.ireturn, 1) := by decide +kernel
theorem dX8_well_0 : decode cX8_well 0 = .ok (.iload_n 1, 1) := by decide +kernel
theorem dX8_well_1 : decode cX8_well 1 = .ok (.aload_n 0, 1) := by decide +kernel
theorem dX8_well_2 : decode cX8_well 2 = .ok (.getfield 10, 3) := by decide +kernel
theorem dX8_well_5 : decode cX8_well 5 = .ok (.getfield 23, 3) := by decide +kernel
theorem dX8_well_8 : decode cX8_well 8 = .ok (.invokestatic 71, 3) := by decide +kernel
theorem dX8_well_11 : decode cX8_well 11 = .ok (.aload_n 0, 1) := by decide +kernel
theorem dX8_well_12 : decode cX8_well 12 = .ok (.getfield 10, 3) := by decide +kernel
theorem dX8_well_15 : decode cX8_well 15 = .ok (.getfield 99, 3) := by decide +kernel
theorem dX8_well_18 : decode cX8_well 18 = .ok (.bipush 6, 2) := by decide +kernel
theorem dX8_well_20 : decode cX8_well 20 = .ok (.invokestatic 27, 3) := by decide +kernel
theorem dX8_well_23 : decode cX8_well 23 = .ok (.aload_n 0, 1) := by decide +kernel
theorem dX8_well_24 : decode cX8_well 24 = .ok (.getfield 10, 3) := by decide +kernel
theorem dX8_well_27 : decode cX8_well 27 = .ok (.getfield 99, 3) := by decide +kernel
theorem dX8_well_30 : decode cX8_well 30 = .ok (.istore_n 3, 1) := by decide +kernel
theorem dX8_well_31 : decode cX8_well 31 = .ok (.aload_n 0, 1) := by decide +kernel
theorem dX8_well_32 : decode cX8_well 32 = .ok (.getfield 10, 3) := by decide +kernel
theorem dX8_well_35 : decode cX8_well 35 = .ok (.getfield 102, 3) := by decide +kernel
theorem dX8_well_38 : decode cX8_well 38 = .ok (.iload_n 3, 1) := by decide +kernel
theorem dX8_well_39 : decode cX8_well 39 = .ok (.aaload, 1) := by decide +kernel
theorem dX8_well_40 : decode cX8_well 40 = .ok (.astore 4, 2) := by decide +kernel
theorem dX8_well_42 : decode cX8_well 42 = .ok (.aload 4, 2) := by decide +kernel
theorem dX8_well_44 : decode cX8_well 44 = .ok (.iload_n 1, 1) := by decide +kernel
theorem dX8_well_45 : decode cX8_well 45 = .ok (.putfield 106, 3) := by decide +kernel
theorem dX8_well_48 : decode cX8_well 48 = .ok (.aload 4, 2) := by decide +kernel
theorem dX8_well_50 : decode cX8_well 50 = .ok (.iload_n 2, 1) := by decide +kernel
theorem dX8_well_51 : decode cX8_well 51 = .ok (.putfield 111, 3) := by decide +kernel
theorem dX8_well_54 : decode cX8_well 54 = .ok (.aload_n 0, 1) := by decide +kernel
theorem dX8_well_55 : decode cX8_well 55 = .ok (.getfield 10, 3) := by decide +kernel
theorem dX8_well_58 : decode cX8_well 58 = .ok (.iload_n 3, 1) := by decide +kernel
theorem dX8_well_59 : decode cX8_well 59 = .ok (.iconst 1, 1) := by decide +kernel
theorem dX8_well_60 : decode cX8_well 60 = .ok (.iadd, 1) := by decide +kernel
theorem dX8_well_61 : decode cX8_well 61 = .ok (.putfield 99, 3) := by decide +kernel
theorem dX8_well_64 : decode cX8_well 64 = .ok (.iload_n 3, 1) := by decide +kernel
theorem dX8_well_65 : decode cX8_well 65 = .ok (.ireturn, 1) := by decide +kernel
theorem dX8_spring_0 : decode cX8_spring 0 = .ok (.iload_n 1, 1) := by decide +kernel
theorem dX8_spring_1 : decode cX8_spring 1 = .ok (.aload_n 0, 1) := by decide +kernel
theorem dX8_spring_2 : decode cX8_spring 2 = .ok (.getfield 10, 3) := by decide +kernel
theorem dX8_spring_5 : decode cX8_spring 5 = .ok (.getfield 23, 3) := by decide +kernel
theorem dX8_spring_8 : decode cX8_spring 8 = .ok (.invokestatic 71, 3) := by decide +kernel
theorem dX8_spring_11 : decode cX8_spring 11 = .ok (.iload_n 2, 1) := by decide +kernel
theorem dX8_spring_12 : decode cX8_spring 12 = .ok (.iconst 0, 1) := by decide +kernel
theorem dX8_spring_13 : decode cX8_spring 13 = .ok (.sipush 300, 3) := by decide +kernel
theorem dX8_spring_16 : decode cX8_spring 16 = .ok (.invokestatic 19, 3) := by decide +kernel
theorem dX8_spring_19 : decode cX8_spring 19 = .ok (.iload_n 3, 1) := by decide +kernel
theorem dX8_spring_20 : decode cX8_spring 20 = .ok (.iconst 0, 1) := by decide +kernel
theorem dX8_spring_21 : decode cX8_spring 21 = .ok (.bipush 50, 2) := by decide +kernel
theorem dX8_spring_23 : decode cX8_spring 23 = .ok (.invokestatic 19, 3) := by decide +kernel
theorem dX8_spring_26 : decode cX8_spring 26 = .ok (.aload_n 0, 1) := by decide +kernel
theorem dX8_spring_27 : decode cX8_spring 27 = .ok (.getfield 10, 3) := by decide +kernel
theorem dX8_spring_30 : decode cX8_spring 30 = .ok (.getfield 115, 3) := by decide +kernel
theorem dX8_spring_33 : decode cX8_spring 33 = .ok (.iconst 3, 1) := by decide +kernel
theorem dX8_spring_34 : decode cX8_spring 34 = .ok (.invokestatic 27, 3) := by decide +kernel
theorem dX8_spring_37 : decode cX8_spring 37 = .ok (.aload_n 0, 1) := by decide +kernel
theorem dX8_spring_38 : decode cX8_spring 38 = .ok (.getfield 10, 3) := by decide +kernel
theorem dX8_spring_41 : decode cX8_spring 41 = .ok (.getfield 115, 3) := by decide +kernel
theorem dX8_spring_44 : decode cX8_spring 44 = .ok (.istore 4, 2) := by decide +kernel
theorem dX8_spring_46 : decode cX8_spring 46 = .ok (.aload_n 0, 1) := by decide +kernel
theorem dX8_spring_47 : decode cX8_spring 47 = .ok (.getfield 10, 3) := by decide +kernel
theorem dX8_spring_50 : decode cX8_spring 50 = .ok (.getfield 118, 3) := by decide +kernel
theorem dX8_spring_53 : decode cX8_spring 53 = .ok (.iload 4, 2) := by decide +kernel
theorem dX8_spring_55 : decode cX8_spring 55 = .ok (.aaload, 1) := by decide +kernel
theorem dX8_spring_56 : decode cX8_spring 56 = .ok (.astore 5, 2) := by decide +kernel
theorem dX8_spring_58 : decode cX8_spring 58 = .ok (.aload 5, 2) := by decide +kernel
theorem dX8_spring_60 : decode cX8_spring 60 = .ok (.iload_n 1, 1) := by decide +kernel
theorem dX8_spring_61 : decode cX8_spring 61 = .ok (.putfield 122, 3) := by decide +kernel
theorem dX8_spring_64 : decode cX8_spring 64 = .ok (.aload 5, 2) := by decide +kernel
theorem dX8_spring_66 : decode cX8_spring 66 = .ok (.iload_n 2, 1) := by decide +kernel
theorem dX8_spring_67 : decode cX8_spring 67 = .ok (.putfield 125, 3) := by decide +kernel
theorem dX8_spring_70 : decode cX8_spring 70 = .ok (.aload 5, 2) := by decide +kernel
theorem dX8_spring_72 : decode cX8_spring 72 = .ok (.iload_n 3, 1) := by decide +kernel
theorem dX8_spring_73 : decode cX8_spring 73 = .ok (.putfield 128, 3) := by decide +kernel
theorem dX8_spring_76 : decode cX8_spring 76 = .ok (.aload_n 0, 1) := by decide +kernel
theorem dX8_spring_77 : decode cX8_spring 77 = .ok (.getfield 10, 3) := by decide +kernel
theorem dX8_spring_80 : decode cX8_spring 80 = .ok (.iload 4, 2) := by decide +kernel
theorem dX8_spring_82 : decode cX8_spring 82 = .ok (.iconst 1, 1) := by decide +kernel
theorem dX8_spring_83 : decode cX8_spring 83 = .ok (.iadd, 1) := by decide +kernel
theorem dX8_spring_84 : decode cX8_spring 84 = .ok (.putfield 115, 3) := by decide +kernel
theorem dX8_spring_87 : decode cX8_spring 87 = .ok (.iload 4, 2) := by decide +kernel
theorem dX8_spring_89 : decode cX8_spring 89 = .ok (.ireturn, 1) := by decide +kernel
theorem dX8_valve_0 : decode cX8_valve 0 = .ok (.iload_n 1, 1) := by decide +kernel
theorem dX8_valve_1 : decode cX8_valve 1 = .ok (.aload_n 0, 1) := by decide +kernel
theorem dX8_valve_2 : decode cX8_valve 2 = .ok (.getfield 10, 3) := by decide +kernel
theorem dX8_valve_5 : decode cX8_valve 5 = .ok (.getfield 99, 3) := by decide +kernel
theorem dX8_valve_8 : decode cX8_valve 8 = .ok (.invokestatic 71, 3) := by decide +kernel
theorem dX8_valve_11 : decode cX8_valve 11 = .ok (.iload_n 2, 1) := by decide +kernel
theorem dX8_valve_12 : decode cX8_valve 12 = .ok (.iconst 0, 1) := by decide +kernel
theorem dX8_valve_13 : decode cX8_valve 13 = .ok (.bipush 9, 2) := by decide +kernel
theorem dX8_valve_15 : decode cX8_valve 15 = .ok (.invokestatic 19, 3) := by decide +kernel
theorem dX8_valve_18 : decode cX8_valve 18 = .ok (.aload_n 0, 1) := by decide +kernel
theorem dX8_valve_19 : decode cX8_valve 19 = .ok (.getfield 10, 3) := by decide +kernel
theorem dX8_valve_22 : decode cX8_valve 22 = .ok (.getfield 102, 3) := by decide +kernel
theorem dX8_valve_25 : decode cX8_valve 25 = .ok (.iload_n 1, 1) := by decide +kernel
theorem dX8_valve_26 : decode cX8_valve 26 = .ok (.aaload, 1) := by decide +kernel
theorem dX8_valve_27 : decode cX8_valve 27 = .ok (.getfield 131, 3) := by decide +kernel
theorem dX8_valve_30 : decode cX8_valve 30 = .ok (.istore_n 3, 1) := by decide +kernel
theorem dX8_valve_31 : decode cX8_valve 31 = .ok (.aload_n 0, 1) := by decide +kernel
theorem dX8_valve_32 : decode cX8_valve 32 = .ok (.getfield 10, 3) := by decide +kernel
theorem dX8_valve_35 : decode cX8_valve 35 = .ok (.getfield 102, 3) := by decide +kernel
theorem dX8_valve_38 : decode cX8_valve 38 = .ok (.iload_n 1, 1) := by decide +kernel
theorem dX8_valve_39 : decode cX8_valve 39 = .ok (.aaload, 1) := by decide +kernel
theorem dX8_valve_40 : decode cX8_valve 40 = .ok (.iload_n 2, 1) := by decide +kernel
theorem dX8_valve_41 : decode cX8_valve 41 = .ok (.putfield 131, 3) := by decide +kernel
theorem dX8_valve_44 : decode cX8_valve 44 = .ok (.iload_n 3, 1) := by decide +kernel
theorem dX8_valve_45 : decode cX8_valve 45 = .ok (.ireturn, 1) := by decide +kernel
theorem dX8_trace_0 : decode cX8_trace 0 = .ok (.iload_n 1, 1) := by decide +kernel
theorem dX8_trace_1 : decode cX8_trace 1 = .ok (.aload_n 0, 1) := by decide +kernel
theorem dX8_trace_2 : decode cX8_trace 2 = .ok (.getfield 10, 3) := by decide +kernel
theorem dX8_trace_5 : decode cX8_trace 5 = .ok (.getfield 99, 3) := by decide +kernel
theorem dX8_trace_8 : decode cX8_trace 8 = .ok (.invokestatic 71, 3) := by decide +kernel
theorem dX8_trace_11 : decode cX8_trace 11 = .ok (.iload_n 2, 1) := by decide +kernel
theorem dX8_trace_12 : decode cX8_trace 12 = .ok (.iconst 1, 1) := by decide +kernel
theorem dX8_trace_13 : decode cX8_trace 13 = .ok (.sipush 999, 3) := by decide +kernel
theorem dX8_trace_16 : decode cX8_trace 16 = .ok (.invokestatic 19, 3) := by decide +kernel
theorem dX8_trace_19 : decode cX8_trace 19 = .ok (.aload_n 0, 1) := by decide +kernel
theorem dX8_trace_20 : decode cX8_trace 20 = .ok (.getfield 10, 3) := by decide +kernel
theorem dX8_trace_23 : decode cX8_trace 23 = .ok (.getfield 31, 3) := by decide +kernel
theorem dX8_trace_26 : decode cX8_trace 26 = .ok (.aload_n 0, 1) := by decide +kernel
theorem dX8_trace_27 : decode cX8_trace 27 = .ok (.getfield 10, 3) := by decide +kernel
theorem dX8_trace_30 : decode cX8_trace 30 = .ok (.getfield 102, 3) := by decide +kernel
theorem dX8_trace_33 : decode cX8_trace 33 = .ok (.iload_n 1, 1) := by decide +kernel
theorem dX8_trace_34 : decode cX8_trace 34 = .ok (.aaload, 1) := by decide +kernel
theorem dX8_trace_35 : decode cX8_trace 35 = .ok (.getfield 106, 3) := by decide +kernel
theorem dX8_trace_38 : decode cX8_trace 38 = .ok (.aaload, 1) := by decide +kernel
theorem dX8_trace_39 : decode cX8_trace 39 = .ok (.getfield 43, 3) := by decide +kernel
theorem dX8_trace_42 : decode cX8_trace 42 = .ok (.astore_n 3, 1) := by decide +kernel
theorem dX8_trace_43 : decode cX8_trace 43 = .ok (.aload_n 3, 1) := by decide +kernel
theorem dX8_trace_44 : decode cX8_trace 44 = .ok (.getfield 47, 3) := by decide +kernel
theorem dX8_trace_47 : decode cX8_trace 47 = .ok (.ifCond .gt 13, 3) := by decide +kernel
theorem dX8_trace_50 : decode cX8_trace 50 = .ok (.new 134, 3) := by decide +kernel
theorem dX8_trace_53 : decode cX8_trace 53 = .ok (.dup, 1) := by decide +kernel
theorem dX8_trace_54 : decode cX8_trace 54 = .ok (.ldc 136, 2) := by decide +kernel
theorem dX8_trace_56 : decode cX8_trace 56 = .ok (.invokespecial 138, 3) := by decide +kernel
theorem dX8_trace_59 : decode cX8_trace 59 = .ok (.athrow, 1) := by decide +kernel
theorem dX8_trace_60 : decode cX8_trace 60 = .ok (.aload_n 3, 1) := by decide +kernel
theorem dX8_trace_61 : decode cX8_trace 61 = .ok (.dup, 1) := by decide +kernel
theorem dX8_trace_62 : decode cX8_trace 62 = .ok (.getfield 139, 3) := by decide +kernel
theorem dX8_trace_65 : decode cX8_trace 65 = .ok (.iload_n 2, 1) := by decide +kernel
theorem dX8_trace_66 : decode cX8_trace 66 = .ok (.iadd, 1) := by decide +kernel
theorem dX8_trace_67 : decode cX8_trace 67 = .ok (.putfield 139, 3) := by decide +kernel
theorem dX8_trace_70 : decode cX8_trace 70 = .ok (.aload_n 0, 1) := by decide +kernel
theorem dX8_trace_71 : decode cX8_trace 71 = .ok (.getfield 10, 3) := by decide +kernel
theorem dX8_trace_74 : decode cX8_trace 74 = .ok (.getfield 58, 3) := by decide +kernel
theorem dX8_trace_77 : decode cX8_trace 77 = .ok (.getfield 62, 3) := by decide +kernel
theorem dX8_trace_80 : decode cX8_trace 80 = .ok (.dup, 1) := by decide +kernel
theorem dX8_trace_81 : decode cX8_trace 81 = .ok (.getfield 139, 3) := by decide +kernel
theorem dX8_trace_84 : decode cX8_trace 84 = .ok (.iload_n 2, 1) := by decide +kernel
theorem dX8_trace_85 : decode cX8_trace 85 = .ok (.iadd, 1) := by decide +kernel
theorem dX8_trace_86 : decode cX8_trace 86 = .ok (.putfield 139, 3) := by decide +kernel
theorem dX8_trace_89 : decode cX8_trace 89 = .ok (.aload_n 3, 1) := by decide +kernel
theorem dX8_trace_90 : decode cX8_trace 90 = .ok (.getfield 139, 3) := by decide +kernel
theorem dX8_trace_93 : decode cX8_trace 93 = .ok (.ireturn, 1) := by decide +kernel
theorem dX8_clean_0 : decode cX8_clean 0 = .ok (.iload_n 1, 1) := by decide +kernel
theorem dX8_clean_1 : decode cX8_clean 1 = .ok (.aload_n 0, 1) := by decide +kernel
theorem dX8_clean_2 : decode cX8_clean 2 = .ok (.getfield 10, 3) := by decide +kernel
theorem dX8_clean_5 : decode cX8_clean 5 = .ok (.getfield 99, 3) := by decide +kernel
theorem dX8_clean_8 : decode cX8_clean 8 = .ok (.invokestatic 71, 3) := by decide +kernel
theorem dX8_clean_11 : decode cX8_clean 11 = .ok (.aload_n 0, 1) := by decide +kernel
theorem dX8_clean_12 : decode cX8_clean 12 = .ok (.getfield 10, 3) := by decide +kernel
theorem dX8_clean_15 : decode cX8_clean 15 = .ok (.getfield 102, 3) := by decide +kernel
theorem dX8_clean_18 : decode cX8_clean 18 = .ok (.iload_n 1, 1) := by decide +kernel
theorem dX8_clean_19 : decode cX8_clean 19 = .ok (.aaload, 1) := by decide +kernel
theorem dX8_clean_20 : decode cX8_clean 20 = .ok (.astore_n 2, 1) := by decide +kernel
theorem dX8_clean_21 : decode cX8_clean 21 = .ok (.aload_n 0, 1) := by decide +kernel
theorem dX8_clean_22 : decode cX8_clean 22 = .ok (.getfield 10, 3) := by decide +kernel
theorem dX8_clean_25 : decode cX8_clean 25 = .ok (.getfield 31, 3) := by decide +kernel
theorem dX8_clean_28 : decode cX8_clean 28 = .ok (.aload_n 2, 1) := by decide +kernel
theorem dX8_clean_29 : decode cX8_clean 29 = .ok (.getfield 106, 3) := by decide +kernel
theorem dX8_clean_32 : decode cX8_clean 32 = .ok (.aaload, 1) := by decide +kernel
theorem dX8_clean_33 : decode cX8_clean 33 = .ok (.getfield 40, 3) := by decide +kernel
theorem dX8_clean_36 : decode cX8_clean 36 = .ok (.istore_n 3, 1) := by decide +kernel
theorem dX8_clean_37 : decode cX8_clean 37 = .ok (.iconst 5, 1) := by decide +kernel
theorem dX8_clean_38 : decode cX8_clean 38 = .ok (.aload_n 2, 1) := by decide +kernel
theorem dX8_clean_39 : decode cX8_clean 39 = .ok (.getfield 142, 3) := by decide +kernel
theorem dX8_clean_42 : decode cX8_clean 42 = .ok (.imul, 1) := by decide +kernel
theorem dX8_clean_43 : decode cX8_clean 43 = .ok (.istore 4, 2) := by decide +kernel
theorem dX8_clean_45 : decode cX8_clean 45 = .ok (.aload_n 0, 1) := by decide +kernel
theorem dX8_clean_46 : decode cX8_clean 46 = .ok (.getfield 10, 3) := by decide +kernel
theorem dX8_clean_49 : decode cX8_clean 49 = .ok (.getfield 145, 3) := by decide +kernel
theorem dX8_clean_52 : decode cX8_clean 52 = .ok (.iload_n 3, 1) := by decide +kernel
theorem dX8_clean_53 : decode cX8_clean 53 = .ok (.iaload, 1) := by decide +kernel
theorem dX8_clean_54 : decode cX8_clean 54 = .ok (.iload 4, 2) := by decide +kernel
theorem dX8_clean_56 : decode cX8_clean 56 = .ok (.if_icmp .ge 13, 3) := by decide +kernel
theorem dX8_clean_59 : decode cX8_clean 59 = .ok (.new 134, 3) := by decide +kernel
theorem dX8_clean_62 : decode cX8_clean 62 = .ok (.dup, 1) := by decide +kernel
theorem dX8_clean_63 : decode cX8_clean 63 = .ok (.ldc 149, 2) := by decide +kernel
theorem dX8_clean_65 : decode cX8_clean 65 = .ok (.invokespecial 138, 3) := by decide +kernel
theorem dX8_clean_68 : decode cX8_clean 68 = .ok (.athrow, 1) := by decide +kernel
theorem dX8_clean_69 : decode cX8_clean 69 = .ok (.aload_n 2, 1) := by decide +kernel
theorem dX8_clean_70 : decode cX8_clean 70 = .ok (.getfield 142, 3) := by decide +kernel
theorem dX8_clean_73 : decode cX8_clean 73 = .ok (.istore 5, 2) := by decide +kernel
theorem dX8_clean_75 : decode cX8_clean 75 = .ok (.aload_n 0, 1) := by decide +kernel
theorem dX8_clean_76 : decode cX8_clean 76 = .ok (.getfield 10, 3) := by decide +kernel
theorem dX8_clean_79 : decode cX8_clean 79 = .ok (.getfield 145, 3) := by decide +kernel
theorem dX8_clean_82 : decode cX8_clean 82 = .ok (.iload_n 3, 1) := by decide +kernel
theorem dX8_clean_83 : decode cX8_clean 83 = .ok (.dup2, 1) := by decide +kernel
theorem dX8_clean_84 : decode cX8_clean 84 = .ok (.iaload, 1) := by decide +kernel
theorem dX8_clean_85 : decode cX8_clean 85 = .ok (.iload 4, 2) := by decide +kernel
theorem dX8_clean_87 : decode cX8_clean 87 = .ok (.isub, 1) := by decide +kernel
theorem dX8_clean_88 : decode cX8_clean 88 = .ok (.iastore, 1) := by decide +kernel
theorem dX8_clean_89 : decode cX8_clean 89 = .ok (.aload_n 2, 1) := by decide +kernel
theorem dX8_clean_90 : decode cX8_clean 90 = .ok (.iconst 0, 1) := by decide +kernel
theorem dX8_clean_91 : decode cX8_clean 91 = .ok (.putfield 142, 3) := by decide +kernel
theorem dX8_clean_94 : decode cX8_clean 94 = .ok (.aload_n 2, 1) := by decide +kernel
theorem dX8_clean_95 : decode cX8_clean 95 = .ok (.iconst 0, 1) := by decide +kernel
theorem dX8_clean_96 : decode cX8_clean 96 = .ok (.putfield 151, 3) := by decide +kernel
theorem dX8_clean_99 : decode cX8_clean 99 = .ok (.iload 5, 2) := by decide +kernel
theorem dX8_clean_101 : decode cX8_clean 101 = .ok (.ireturn, 1) := by decide +kernel
theorem dX8_turbine_0 : decode cX8_turbine 0 = .ok (.iload_n 1, 1) := by decide +kernel
theorem dX8_turbine_1 : decode cX8_turbine 1 = .ok (.iconst 0, 1) := by decide +kernel
theorem dX8_turbine_2 : decode cX8_turbine 2 = .ok (.bipush 99, 2) := by decide +kernel
theorem dX8_turbine_4 : decode cX8_turbine 4 = .ok (.invokestatic 19, 3) := by decide +kernel
theorem dX8_turbine_7 : decode cX8_turbine 7 = .ok (.aload_n 0, 1) := by decide +kernel
theorem dX8_turbine_8 : decode cX8_turbine 8 = .ok (.getfield 10, 3) := by decide +kernel
theorem dX8_turbine_11 : decode cX8_turbine 11 = .ok (.getfield 154, 3) := by decide +kernel
theorem dX8_turbine_14 : decode cX8_turbine 14 = .ok (.getfield 158, 3) := by decide +kernel
theorem dX8_turbine_17 : decode cX8_turbine 17 = .ok (.istore_n 2, 1) := by decide +kernel
theorem dX8_turbine_18 : decode cX8_turbine 18 = .ok (.aload_n 0, 1) := by decide +kernel
theorem dX8_turbine_19 : decode cX8_turbine 19 = .ok (.getfield 10, 3) := by decide +kernel
theorem dX8_turbine_22 : decode cX8_turbine 22 = .ok (.getfield 154, 3) := by decide +kernel
theorem dX8_turbine_25 : decode cX8_turbine 25 = .ok (.iload_n 1, 1) := by decide +kernel
theorem dX8_turbine_26 : decode cX8_turbine 26 = .ok (.putfield 158, 3) := by decide +kernel
theorem dX8_turbine_29 : decode cX8_turbine 29 = .ok (.aload_n 0, 1) := by decide +kernel
theorem dX8_turbine_30 : decode cX8_turbine 30 = .ok (.getfield 10, 3) := by decide +kernel
theorem dX8_turbine_33 : decode cX8_turbine 33 = .ok (.getfield 154, 3) := by decide +kernel
theorem dX8_turbine_36 : decode cX8_turbine 36 = .ok (.iconst 1, 1) := by decide +kernel
theorem dX8_turbine_37 : decode cX8_turbine 37 = .ok (.putfield 163, 3) := by decide +kernel
theorem dX8_turbine_40 : decode cX8_turbine 40 = .ok (.iload_n 2, 1) := by decide +kernel
theorem dX8_turbine_41 : decode cX8_turbine 41 = .ok (.ireturn, 1) := by decide +kernel
theorem dX8_town_0 : decode cX8_town 0 = .ok (.iload_n 1, 1) := by decide +kernel
theorem dX8_town_1 : decode cX8_town 1 = .ok (.iconst 0, 1) := by decide +kernel
theorem dX8_town_2 : decode cX8_town 2 = .ok (.sipush 999, 3) := by decide +kernel
theorem dX8_town_5 : decode cX8_town 5 = .ok (.invokestatic 19, 3) := by decide +kernel
theorem dX8_town_8 : decode cX8_town 8 = .ok (.aload_n 0, 1) := by decide +kernel
theorem dX8_town_9 : decode cX8_town 9 = .ok (.getfield 10, 3) := by decide +kernel
theorem dX8_town_12 : decode cX8_town 12 = .ok (.getfield 154, 3) := by decide +kernel
theorem dX8_town_15 : decode cX8_town 15 = .ok (.getfield 166, 3) := by decide +kernel
theorem dX8_town_18 : decode cX8_town 18 = .ok (.istore_n 2, 1) := by decide +kernel
theorem dX8_town_19 : decode cX8_town 19 = .ok (.aload_n 0, 1) := by decide +kernel
theorem dX8_town_20 : decode cX8_town 20 = .ok (.getfield 10, 3) := by decide +kernel
theorem dX8_town_23 : decode cX8_town 23 = .ok (.getfield 154, 3) := by decide +kernel
theorem dX8_town_26 : decode cX8_town 26 = .ok (.iload_n 1, 1) := by decide +kernel
theorem dX8_town_27 : decode cX8_town 27 = .ok (.putfield 166, 3) := by decide +kernel
theorem dX8_town_30 : decode cX8_town 30 = .ok (.iload_n 2, 1) := by decide +kernel
theorem dX8_town_31 : decode cX8_town 31 = .ok (.ireturn, 1) := by decide +kernel
theorem dX8_run_0 : decode cX8_run 0 = .ok (.iload_n 1, 1) := by decide +kernel
theorem dX8_run_1 : decode cX8_run 1 = .ok (.iconst 1, 1) := by decide +kernel
theorem dX8_run_2 : decode cX8_run 2 = .ok (.bipush 30, 2) := by decide +kernel
theorem dX8_run_4 : decode cX8_run 4 = .ok (.invokestatic 19, 3) := by decide +kernel
theorem dX8_run_7 : decode cX8_run 7 = .ok (.aload_n 0, 1) := by decide +kernel
theorem dX8_run_8 : decode cX8_run 8 = .ok (.getfield 10, 3) := by decide +kernel
theorem dX8_run_11 : decode cX8_run 11 = .ok (.iload_n 1, 1) := by decide +kernel
theorem dX8_run_12 : decode cX8_run 12 = .ok (.invokestatic 169, 3) := by decide +kernel
theorem dX8_run_15 : decode cX8_run 15 = .ok (.ireturn, 1) := by decide +kernel
theorem dX8_ofBlock_0 : decode cX8_ofBlock 0 = .ok (.iload_n 1, 1) := by decide +kernel
theorem dX8_ofBlock_1 : decode cX8_ofBlock 1 = .ok (.aload_n 0, 1) := by decide +kernel
theorem dX8_ofBlock_2 : decode cX8_ofBlock 2 = .ok (.getfield 10, 3) := by decide +kernel
theorem dX8_ofBlock_5 : decode cX8_ofBlock 5 = .ok (.getfield 23, 3) := by decide +kernel
theorem dX8_ofBlock_8 : decode cX8_ofBlock 8 = .ok (.invokestatic 71, 3) := by decide +kernel
theorem dX8_ofBlock_11 : decode cX8_ofBlock 11 = .ok (.iload_n 2, 1) := by decide +kernel
theorem dX8_ofBlock_12 : decode cX8_ofBlock 12 = .ok (.iconst 0, 1) := by decide +kernel
theorem dX8_ofBlock_13 : decode cX8_ofBlock 13 = .ok (.iconst 5, 1) := by decide +kernel
theorem dX8_ofBlock_14 : decode cX8_ofBlock 14 = .ok (.invokestatic 19, 3) := by decide +kernel
theorem dX8_ofBlock_17 : decode cX8_ofBlock 17 = .ok (.aload_n 0, 1) := by decide +kernel
theorem dX8_ofBlock_18 : decode cX8_ofBlock 18 = .ok (.getfield 10, 3) := by decide +kernel
theorem dX8_ofBlock_21 : decode cX8_ofBlock 21 = .ok (.getfield 31, 3) := by decide +kernel
theorem dX8_ofBlock_24 : decode cX8_ofBlock 24 = .ok (.iload_n 1, 1) := by decide +kernel
theorem dX8_ofBlock_25 : decode cX8_ofBlock 25 = .ok (.aaload, 1) := by decide +kernel
theorem dX8_ofBlock_26 : decode cX8_ofBlock 26 = .ok (.astore_n 3, 1) := by decide +kernel
theorem dX8_ofBlock_27 : decode cX8_ofBlock 27 = .ok (.iload_n 2, 1) := by decide +kernel
theorem dX8_ofBlock_28 : decode cX8_ofBlock 28 = .ok (.lookupswitch 38 #[(4, 28), (5, 33)], 28) := by decide +kernel
theorem dX8_ofBlock_56 : decode cX8_ofBlock 56 = .ok (.aload_n 3, 1) := by decide +kernel
theorem dX8_ofBlock_57 : decode cX8_ofBlock 57 = .ok (.invokevirtual 173, 3) := by decide +kernel
theorem dX8_ofBlock_60 : decode cX8_ofBlock 60 = .ok (.ireturn, 1) := by decide +kernel
theorem dX8_ofBlock_61 : decode cX8_ofBlock 61 = .ok (.aload_n 3, 1) := by decide +kernel
theorem dX8_ofBlock_62 : decode cX8_ofBlock 62 = .ok (.invokevirtual 177, 3) := by decide +kernel
theorem dX8_ofBlock_65 : decode cX8_ofBlock 65 = .ok (.ireturn, 1) := by decide +kernel
theorem dX8_ofBlock_66 : decode cX8_ofBlock 66 = .ok (.aload_n 3, 1) := by decide +kernel
theorem dX8_ofBlock_67 : decode cX8_ofBlock 67 = .ok (.getfield 43, 3) := by decide +kernel
theorem dX8_ofBlock_70 : decode cX8_ofBlock 70 = .ok (.iload_n 2, 1) := by decide +kernel
theorem dX8_ofBlock_71 : decode cX8_ofBlock 71 = .ok (.invokevirtual 180, 3) := by decide +kernel
theorem dX8_ofBlock_74 : decode cX8_ofBlock 74 = .ok (.ireturn, 1) := by decide +kernel
theorem dX8_ofWell_0 : decode cX8_ofWell 0 = .ok (.iload_n 1, 1) := by decide +kernel
theorem dX8_ofWell_1 : decode cX8_ofWell 1 = .ok (.aload_n 0, 1) := by decide +kernel
theorem dX8_ofWell_2 : decode cX8_ofWell 2 = .ok (.getfield 10, 3) := by decide +kernel
theorem dX8_ofWell_5 : decode cX8_ofWell 5 = .ok (.getfield 99, 3) := by decide +kernel
theorem dX8_ofWell_8 : decode cX8_ofWell 8 = .ok (.invokestatic 71, 3) := by decide +kernel
theorem dX8_ofWell_11 : decode cX8_ofWell 11 = .ok (.iload_n 2, 1) := by decide +kernel
theorem dX8_ofWell_12 : decode cX8_ofWell 12 = .ok (.iconst 0, 1) := by decide +kernel
theorem dX8_ofWell_13 : decode cX8_ofWell 13 = .ok (.bipush 8, 2) := by decide +kernel
theorem dX8_ofWell_15 : decode cX8_ofWell 15 = .ok (.invokestatic 19, 3) := by decide +kernel
theorem dX8_ofWell_18 : decode cX8_ofWell 18 = .ok (.aload_n 0, 1) := by decide +kernel
theorem dX8_ofWell_19 : decode cX8_ofWell 19 = .ok (.getfield 10, 3) := by decide +kernel
theorem dX8_ofWell_22 : decode cX8_ofWell 22 = .ok (.getfield 102, 3) := by decide +kernel
theorem dX8_ofWell_25 : decode cX8_ofWell 25 = .ok (.iload_n 1, 1) := by decide +kernel
theorem dX8_ofWell_26 : decode cX8_ofWell 26 = .ok (.aaload, 1) := by decide +kernel
theorem dX8_ofWell_27 : decode cX8_ofWell 27 = .ok (.astore_n 3, 1) := by decide +kernel
theorem dX8_ofWell_28 : decode cX8_ofWell 28 = .ok (.iload_n 2, 1) := by decide +kernel
theorem dX8_ofWell_29 : decode cX8_ofWell 29 = .ok (.tableswitch 95 0 7 #[47, 52, 65, 70, 75, 80, 85, 90], 47) := by decide +kernel
theorem dX8_ofWell_76 : decode cX8_ofWell 76 = .ok (.aload_n 3, 1) := by decide +kernel
theorem dX8_ofWell_77 : decode cX8_ofWell 77 = .ok (.getfield 106, 3) := by decide +kernel
theorem dX8_ofWell_80 : decode cX8_ofWell 80 = .ok (.ireturn, 1) := by decide +kernel
theorem dX8_ofWell_81 : decode cX8_ofWell 81 = .ok (.aload_n 3, 1) := by decide +kernel
theorem dX8_ofWell_82 : decode cX8_ofWell 82 = .ok (.getfield 111, 3) := by decide +kernel
theorem dX8_ofWell_85 : decode cX8_ofWell 85 = .ok (.ifCond .eq 7, 3) := by decide +kernel
theorem dX8_ofWell_88 : decode cX8_ofWell 88 = .ok (.iconst 1, 1) := by decide +kernel
theorem dX8_ofWell_89 : decode cX8_ofWell 89 = .ok (.goto 4, 3) := by decide +kernel
theorem dX8_ofWell_92 : decode cX8_ofWell 92 = .ok (.iconst 0, 1) := by decide +kernel
theorem dX8_ofWell_93 : decode cX8_ofWell 93 = .ok (.ireturn, 1) := by decide +kernel
theorem dX8_ofWell_94 : decode cX8_ofWell 94 = .ok (.aload_n 3, 1) := by decide +kernel
theorem dX8_ofWell_95 : decode cX8_ofWell 95 = .ok (.getfield 131, 3) := by decide +kernel
theorem dX8_ofWell_98 : decode cX8_ofWell 98 = .ok (.ireturn, 1) := by decide +kernel
theorem dX8_ofWell_99 : decode cX8_ofWell 99 = .ok (.aload_n 3, 1) := by decide +kernel
theorem dX8_ofWell_100 : decode cX8_ofWell 100 = .ok (.getfield 142, 3) := by decide +kernel
theorem dX8_ofWell_103 : decode cX8_ofWell 103 = .ok (.ireturn, 1) := by decide +kernel
theorem dX8_ofWell_104 : decode cX8_ofWell 104 = .ok (.aload_n 3, 1) := by decide +kernel
theorem dX8_ofWell_105 : decode cX8_ofWell 105 = .ok (.getfield 151, 3) := by decide +kernel
theorem dX8_ofWell_108 : decode cX8_ofWell 108 = .ok (.ireturn, 1) := by decide +kernel
theorem dX8_ofWell_109 : decode cX8_ofWell 109 = .ok (.aload_n 3, 1) := by decide +kernel
theorem dX8_ofWell_110 : decode cX8_ofWell 110 = .ok (.getfield 184, 3) := by decide +kernel
theorem dX8_ofWell_113 : decode cX8_ofWell 113 = .ok (.ireturn, 1) := by decide +kernel
theorem dX8_ofWell_114 : decode cX8_ofWell 114 = .ok (.aload_n 3, 1) := by decide +kernel
theorem dX8_ofWell_115 : decode cX8_ofWell 115 = .ok (.getfield 187, 3) := by decide +kernel
theorem dX8_ofWell_118 : decode cX8_ofWell 118 = .ok (.ireturn, 1) := by decide +kernel
theorem dX8_ofWell_119 : decode cX8_ofWell 119 = .ok (.aload_n 3, 1) := by decide +kernel
theorem dX8_ofWell_120 : decode cX8_ofWell 120 = .ok (.getfield 190, 3) := by decide +kernel
theorem dX8_ofWell_123 : decode cX8_ofWell 123 = .ok (.ireturn, 1) := by decide +kernel
theorem dX8_ofWell_124 : decode cX8_ofWell 124 = .ok (.aload_n 3, 1) := by decide +kernel
theorem dX8_ofWell_125 : decode cX8_ofWell 125 = .ok (.getfield 191, 3) := by decide +kernel
theorem dX8_ofWell_128 : decode cX8_ofWell 128 = .ok (.ireturn, 1) := by decide +kernel
theorem dX8_ofSpring_0 : decode cX8_ofSpring 0 = .ok (.iload_n 1, 1) := by decide +kernel
theorem dX8_ofSpring_1 : decode cX8_ofSpring 1 = .ok (.aload_n 0, 1) := by decide +kernel
theorem dX8_ofSpring_2 : decode cX8_ofSpring 2 = .ok (.getfield 10, 3) := by decide +kernel
theorem dX8_ofSpring_5 : decode cX8_ofSpring 5 = .ok (.getfield 115, 3) := by decide +kernel
theorem dX8_ofSpring_8 : decode cX8_ofSpring 8 = .ok (.invokestatic 71, 3) := by decide +kernel
theorem dX8_ofSpring_11 : decode cX8_ofSpring 11 = .ok (.iload_n 2, 1) := by decide +kernel
theorem dX8_ofSpring_12 : decode cX8_ofSpring 12 = .ok (.iconst 0, 1) := by decide +kernel
theorem dX8_ofSpring_13 : decode cX8_ofSpring 13 = .ok (.iconst 3, 1) := by decide +kernel
theorem dX8_ofSpring_14 : decode cX8_ofSpring 14 = .ok (.invokestatic 19, 3) := by decide +kernel
theorem dX8_ofSpring_17 : decode cX8_ofSpring 17 = .ok (.aload_n 0, 1) := by decide +kernel
theorem dX8_ofSpring_18 : decode cX8_ofSpring 18 = .ok (.getfield 10, 3) := by decide +kernel
theorem dX8_ofSpring_21 : decode cX8_ofSpring 21 = .ok (.getfield 118, 3) := by decide +kernel
theorem dX8_ofSpring_24 : decode cX8_ofSpring 24 = .ok (.iload_n 1, 1) := by decide +kernel
theorem dX8_ofSpring_25 : decode cX8_ofSpring 25 = .ok (.aaload, 1) := by decide +kernel
theorem dX8_ofSpring_26 : decode cX8_ofSpring 26 = .ok (.astore_n 3, 1) := by decide +kernel
theorem dX8_ofSpring_27 : decode cX8_ofSpring 27 = .ok (.iload_n 2, 1) := by decide +kernel
theorem dX8_ofSpring_28 : decode cX8_ofSpring 28 = .ok (.tableswitch 43 0 2 #[28, 33, 38], 28) := by decide +kernel
theorem dX8_ofSpring_56 : decode cX8_ofSpring 56 = .ok (.aload_n 3, 1) := by decide +kernel
theorem dX8_ofSpring_57 : decode cX8_ofSpring 57 = .ok (.getfield 194, 3) := by decide +kernel
theorem dX8_ofSpring_60 : decode cX8_ofSpring 60 = .ok (.ireturn, 1) := by decide +kernel
theorem dX8_ofSpring_61 : decode cX8_ofSpring 61 = .ok (.aload_n 3, 1) := by decide +kernel
theorem dX8_ofSpring_62 : decode cX8_ofSpring 62 = .ok (.getfield 195, 3) := by decide +kernel
theorem dX8_ofSpring_65 : decode cX8_ofSpring 65 = .ok (.ireturn, 1) := by decide +kernel
theorem dX8_ofSpring_66 : decode cX8_ofSpring 66 = .ok (.aload_n 3, 1) := by decide +kernel
theorem dX8_ofSpring_67 : decode cX8_ofSpring 67 = .ok (.getfield 198, 3) := by decide +kernel
theorem dX8_ofSpring_70 : decode cX8_ofSpring 70 = .ok (.ireturn, 1) := by decide +kernel
theorem dX8_ofSpring_71 : decode cX8_ofSpring 71 = .ok (.aload_n 3, 1) := by decide +kernel
theorem dX8_ofSpring_72 : decode cX8_ofSpring 72 = .ok (.getfield 199, 3) := by decide +kernel
theorem dX8_ofSpring_75 : decode cX8_ofSpring 75 = .ok (.ireturn, 1) := by decide +kernel
theorem dX8_ofFace_0 : decode cX8_ofFace 0 = .ok (.iload_n 1, 1) := by decide +kernel
theorem dX8_ofFace_1 : decode cX8_ofFace 1 = .ok (.aload_n 0, 1) := by decide +kernel
theorem dX8_ofFace_2 : decode cX8_ofFace 2 = .ok (.getfield 10, 3) := by decide +kernel
theorem dX8_ofFace_5 : decode cX8_ofFace 5 = .ok (.getfield 81, 3) := by decide +kernel
theorem dX8_ofFace_8 : decode cX8_ofFace 8 = .ok (.invokestatic 71, 3) := by decide +kernel
theorem dX8_ofFace_11 : decode cX8_ofFace 11 = .ok (.iload_n 2, 1) := by decide +kernel
theorem dX8_ofFace_12 : decode cX8_ofFace 12 = .ok (.ifCond .eq 18, 3) := by decide +kernel
theorem dX8_ofFace_15 : decode cX8_ofFace 15 = .ok (.aload_n 0, 1) := by decide +kernel
theorem dX8_ofFace_16 : decode cX8_ofFace 16 = .ok (.getfield 10, 3) := by decide +kernel
theorem dX8_ofFace_19 : decode cX8_ofFace 19 = .ok (.getfield 84, 3) := by decide +kernel
theorem dX8_ofFace_22 : decode cX8_ofFace 22 = .ok (.iload_n 1, 1) := by decide +kernel
theorem dX8_ofFace_23 : decode cX8_ofFace 23 = .ok (.aaload, 1) := by decide +kernel
theorem dX8_ofFace_24 : decode cX8_ofFace 24 = .ok (.getfield 202, 3) := by decide +kernel
theorem dX8_ofFace_27 : decode cX8_ofFace 27 = .ok (.goto 15, 3) := by decide +kernel
theorem dX8_ofFace_30 : decode cX8_ofFace 30 = .ok (.aload_n 0, 1) := by decide +kernel
theorem dX8_ofFace_31 : decode cX8_ofFace 31 = .ok (.getfield 10, 3) := by decide +kernel
theorem dX8_ofFace_34 : decode cX8_ofFace 34 = .ok (.getfield 84, 3) := by decide +kernel
theorem dX8_ofFace_37 : decode cX8_ofFace 37 = .ok (.iload_n 1, 1) := by decide +kernel
theorem dX8_ofFace_38 : decode cX8_ofFace 38 = .ok (.aaload, 1) := by decide +kernel
theorem dX8_ofFace_39 : decode cX8_ofFace 39 = .ok (.getfield 96, 3) := by decide +kernel
theorem dX8_ofFace_42 : decode cX8_ofFace 42 = .ok (.ireturn, 1) := by decide +kernel
theorem dX8_pond_0 : decode cX8_pond 0 = .ok (.iload_n 1, 1) := by decide +kernel
theorem dX8_pond_1 : decode cX8_pond 1 = .ok (.iconst 0, 1) := by decide +kernel
theorem dX8_pond_2 : decode cX8_pond 2 = .ok (.iconst 3, 1) := by decide +kernel
theorem dX8_pond_3 : decode cX8_pond 3 = .ok (.invokestatic 19, 3) := by decide +kernel
theorem dX8_pond_6 : decode cX8_pond 6 = .ok (.aload_n 0, 1) := by decide +kernel
theorem dX8_pond_7 : decode cX8_pond 7 = .ok (.getfield 10, 3) := by decide +kernel
theorem dX8_pond_10 : decode cX8_pond 10 = .ok (.getfield 203, 3) := by decide +kernel
theorem dX8_pond_13 : decode cX8_pond 13 = .ok (.iload_n 1, 1) := by decide +kernel
theorem dX8_pond_14 : decode cX8_pond 14 = .ok (.invokevirtual 180, 3) := by decide +kernel
theorem dX8_pond_17 : decode cX8_pond 17 = .ok (.ireturn, 1) := by decide +kernel
theorem dX8_ofOwner_0 : decode cX8_ofOwner 0 = .ok (.iload_n 1, 1) := by decide +kernel
theorem dX8_ofOwner_1 : decode cX8_ofOwner 1 = .ok (.iconst 2, 1) := by decide +kernel
theorem dX8_ofOwner_2 : decode cX8_ofOwner 2 = .ok (.invokestatic 71, 3) := by decide +kernel
theorem dX8_ofOwner_5 : decode cX8_ofOwner 5 = .ok (.iload_n 2, 1) := by decide +kernel
theorem dX8_ofOwner_6 : decode cX8_ofOwner 6 = .ok (.iconst 0, 1) := by decide +kernel
theorem dX8_ofOwner_7 : decode cX8_ofOwner 7 = .ok (.iconst 1, 1) := by decide +kernel
theorem dX8_ofOwner_8 : decode cX8_ofOwner 8 = .ok (.invokestatic 19, 3) := by decide +kernel
theorem dX8_ofOwner_11 : decode cX8_ofOwner 11 = .ok (.iload_n 2, 1) := by decide +kernel
theorem dX8_ofOwner_12 : decode cX8_ofOwner 12 = .ok (.ifCond .ne 15, 3) := by decide +kernel
theorem dX8_ofOwner_15 : decode cX8_ofOwner 15 = .ok (.aload_n 0, 1) := by decide +kernel
theorem dX8_ofOwner_16 : decode cX8_ofOwner 16 = .ok (.getfield 10, 3) := by decide +kernel
theorem dX8_ofOwner_19 : decode cX8_ofOwner 19 = .ok (.getfield 145, 3) := by decide +kernel
theorem dX8_ofOwner_22 : decode cX8_ofOwner 22 = .ok (.iload_n 1, 1) := by decide +kernel
theorem dX8_ofOwner_23 : decode cX8_ofOwner 23 = .ok (.iaload, 1) := by decide +kernel
theorem dX8_ofOwner_24 : decode cX8_ofOwner 24 = .ok (.goto 11, 3) := by decide +kernel
theorem dX8_ofOwner_27 : decode cX8_ofOwner 27 = .ok (.aload_n 0, 1) := by decide +kernel
theorem dX8_ofOwner_28 : decode cX8_ofOwner 28 = .ok (.getfield 10, 3) := by decide +kernel
theorem dX8_ofOwner_31 : decode cX8_ofOwner 31 = .ok (.iload_n 1, 1) := by decide +kernel
theorem dX8_ofOwner_32 : decode cX8_ofOwner 32 = .ok (.invokevirtual 206, 3) := by decide +kernel
theorem dX8_ofOwner_35 : decode cX8_ofOwner 35 = .ok (.ireturn, 1) := by decide +kernel
theorem dX8_mass_0 : decode cX8_mass 0 = .ok (.iload_n 1, 1) := by decide +kernel
theorem dX8_mass_1 : decode cX8_mass 1 = .ok (.iconst 0, 1) := by decide +kernel
theorem dX8_mass_2 : decode cX8_mass 2 = .ok (.bipush 6, 2) := by decide +kernel
theorem dX8_mass_4 : decode cX8_mass 4 = .ok (.invokestatic 19, 3) := by decide +kernel
theorem dX8_mass_7 : decode cX8_mass 7 = .ok (.iload_n 1, 1) := by decide +kernel
theorem dX8_mass_8 : decode cX8_mass 8 = .ok (.tableswitch 110 0 5 #[40, 54, 63, 74, 85, 96], 40) := by decide +kernel
theorem dX8_mass_48 : decode cX8_mass 48 = .ok (.aload_n 0, 1) := by decide +kernel
theorem dX8_mass_49 : decode cX8_mass 49 = .ok (.getfield 10, 3) := by decide +kernel
theorem dX8_mass_52 : decode cX8_mass 52 = .ok (.getfield 58, 3) := by decide +kernel
theorem dX8_mass_55 : decode cX8_mass 55 = .ok (.getfield 62, 3) := by decide +kernel
theorem dX8_mass_58 : decode cX8_mass 58 = .ok (.getfield 47, 3) := by decide +kernel
theorem dX8_mass_61 : decode cX8_mass 61 = .ok (.ireturn, 1) := by decide +kernel
theorem dX8_mass_62 : decode cX8_mass 62 = .ok (.aload_n 0, 1) := by decide +kernel
theorem dX8_mass_63 : decode cX8_mass 63 = .ok (.getfield 10, 3) := by decide +kernel
theorem dX8_mass_66 : decode cX8_mass 66 = .ok (.iconst 0, 1) := by decide +kernel
theorem dX8_mass_67 : decode cX8_mass 67 = .ok (.invokevirtual 209, 3) := by decide +kernel
theorem dX8_mass_70 : decode cX8_mass 70 = .ok (.ireturn, 1) := by decide +kernel
theorem dX8_mass_71 : decode cX8_mass 71 = .ok (.aload_n 0, 1) := by decide +kernel
theorem dX8_mass_72 : decode cX8_mass 72 = .ok (.getfield 10, 3) := by decide +kernel
theorem dX8_mass_75 : decode cX8_mass 75 = .ok (.getfield 203, 3) := by decide +kernel
theorem dX8_mass_78 : decode cX8_mass 78 = .ok (.getfield 47, 3) := by decide +kernel
theorem dX8_mass_81 : decode cX8_mass 81 = .ok (.ireturn, 1) := by decide +kernel
theorem dX8_mass_82 : decode cX8_mass 82 = .ok (.aload_n 0, 1) := by decide +kernel
theorem dX8_mass_83 : decode cX8_mass 83 = .ok (.getfield 10, 3) := by decide +kernel
theorem dX8_mass_86 : decode cX8_mass 86 = .ok (.getfield 58, 3) := by decide +kernel
theorem dX8_mass_89 : decode cX8_mass 89 = .ok (.getfield 212, 3) := by decide +kernel
theorem dX8_mass_92 : decode cX8_mass 92 = .ok (.ireturn, 1) := by decide +kernel
theorem dX8_mass_93 : decode cX8_mass 93 = .ok (.aload_n 0, 1) := by decide +kernel
theorem dX8_mass_94 : decode cX8_mass 94 = .ok (.getfield 10, 3) := by decide +kernel
theorem dX8_mass_97 : decode cX8_mass 97 = .ok (.getfield 58, 3) := by decide +kernel
theorem dX8_mass_100 : decode cX8_mass 100 = .ok (.getfield 215, 3) := by decide +kernel
theorem dX8_mass_103 : decode cX8_mass 103 = .ok (.ireturn, 1) := by decide +kernel
theorem dX8_mass_104 : decode cX8_mass 104 = .ok (.aload_n 0, 1) := by decide +kernel
theorem dX8_mass_105 : decode cX8_mass 105 = .ok (.getfield 10, 3) := by decide +kernel
theorem dX8_mass_108 : decode cX8_mass 108 = .ok (.getfield 58, 3) := by decide +kernel
theorem dX8_mass_111 : decode cX8_mass 111 = .ok (.getfield 218, 3) := by decide +kernel
theorem dX8_mass_114 : decode cX8_mass 114 = .ok (.getfield 47, 3) := by decide +kernel
theorem dX8_mass_117 : decode cX8_mass 117 = .ok (.ireturn, 1) := by decide +kernel
theorem dX8_mass_118 : decode cX8_mass 118 = .ok (.aload_n 0, 1) := by decide +kernel
theorem dX8_mass_119 : decode cX8_mass 119 = .ok (.getfield 10, 3) := by decide +kernel
theorem dX8_mass_122 : decode cX8_mass 122 = .ok (.getfield 58, 3) := by decide +kernel
theorem dX8_mass_125 : decode cX8_mass 125 = .ok (.getfield 221, 3) := by decide +kernel
theorem dX8_mass_128 : decode cX8_mass 128 = .ok (.getfield 47, 3) := by decide +kernel
theorem dX8_mass_131 : decode cX8_mass 131 = .ok (.ireturn, 1) := by decide +kernel
theorem dX8_isClosed_0 : decode cX8_isClosed 0 = .ok (.aload_n 0, 1) := by decide +kernel
theorem dX8_isClosed_1 : decode cX8_isClosed 1 = .ok (.getfield 10, 3) := by decide +kernel
theorem dX8_isClosed_4 : decode cX8_isClosed 4 = .ok (.getfield 58, 3) := by decide +kernel
theorem dX8_isClosed_7 : decode cX8_isClosed 7 = .ok (.getfield 212, 3) := by decide +kernel
theorem dX8_isClosed_10 : decode cX8_isClosed 10 = .ok (.aload_n 0, 1) := by decide +kernel
theorem dX8_isClosed_11 : decode cX8_isClosed 11 = .ok (.getfield 10, 3) := by decide +kernel
theorem dX8_isClosed_14 : decode cX8_isClosed 14 = .ok (.getfield 58, 3) := by decide +kernel
theorem dX8_isClosed_17 : decode cX8_isClosed 17 = .ok (.getfield 215, 3) := by decide +kernel
theorem dX8_isClosed_20 : decode cX8_isClosed 20 = .ok (.iadd, 1) := by decide +kernel
theorem dX8_isClosed_21 : decode cX8_isClosed 21 = .ok (.istore_n 1, 1) := by decide +kernel
theorem dX8_isClosed_22 : decode cX8_isClosed 22 = .ok (.aload_n 0, 1) := by decide +kernel
theorem dX8_isClosed_23 : decode cX8_isClosed 23 = .ok (.getfield 10, 3) := by decide +kernel
theorem dX8_isClosed_26 : decode cX8_isClosed 26 = .ok (.getfield 58, 3) := by decide +kernel
theorem dX8_isClosed_29 : decode cX8_isClosed 29 = .ok (.getfield 62, 3) := by decide +kernel
theorem dX8_isClosed_32 : decode cX8_isClosed 32 = .ok (.getfield 47, 3) := by decide +kernel
theorem dX8_isClosed_35 : decode cX8_isClosed 35 = .ok (.aload_n 0, 1) := by decide +kernel
theorem dX8_isClosed_36 : decode cX8_isClosed 36 = .ok (.getfield 10, 3) := by decide +kernel
theorem dX8_isClosed_39 : decode cX8_isClosed 39 = .ok (.iconst 0, 1) := by decide +kernel
theorem dX8_isClosed_40 : decode cX8_isClosed 40 = .ok (.invokevirtual 224, 3) := by decide +kernel
theorem dX8_isClosed_43 : decode cX8_isClosed 43 = .ok (.iload_n 1, 1) := by decide +kernel
theorem dX8_isClosed_44 : decode cX8_isClosed 44 = .ok (.iadd, 1) := by decide +kernel
theorem dX8_isClosed_45 : decode cX8_isClosed 45 = .ok (.if_icmp .ne 55, 3) := by decide +kernel
theorem dX8_isClosed_48 : decode cX8_isClosed 48 = .ok (.aload_n 0, 1) := by decide +kernel
theorem dX8_isClosed_49 : decode cX8_isClosed 49 = .ok (.getfield 10, 3) := by decide +kernel
theorem dX8_isClosed_52 : decode cX8_isClosed 52 = .ok (.getfield 58, 3) := by decide +kernel
theorem dX8_isClosed_55 : decode cX8_isClosed 55 = .ok (.getfield 62, 3) := by decide +kernel
theorem dX8_isClosed_58 : decode cX8_isClosed 58 = .ok (.getfield 55, 3) := by decide +kernel
theorem dX8_isClosed_61 : decode cX8_isClosed 61 = .ok (.aload_n 0, 1) := by decide +kernel
theorem dX8_isClosed_62 : decode cX8_isClosed 62 = .ok (.getfield 10, 3) := by decide +kernel
theorem dX8_isClosed_65 : decode cX8_isClosed 65 = .ok (.iconst 2, 1) := by decide +kernel
theorem dX8_isClosed_66 : decode cX8_isClosed 66 = .ok (.invokevirtual 224, 3) := by decide +kernel
theorem dX8_isClosed_69 : decode cX8_isClosed 69 = .ok (.if_icmp .ne 31, 3) := by decide +kernel
theorem dX8_isClosed_72 : decode cX8_isClosed 72 = .ok (.aload_n 0, 1) := by decide +kernel
theorem dX8_isClosed_73 : decode cX8_isClosed 73 = .ok (.getfield 10, 3) := by decide +kernel
theorem dX8_isClosed_76 : decode cX8_isClosed 76 = .ok (.getfield 58, 3) := by decide +kernel
theorem dX8_isClosed_79 : decode cX8_isClosed 79 = .ok (.getfield 62, 3) := by decide +kernel
theorem dX8_isClosed_82 : decode cX8_isClosed 82 = .ok (.getfield 139, 3) := by decide +kernel
theorem dX8_isClosed_85 : decode cX8_isClosed 85 = .ok (.aload_n 0, 1) := by decide +kernel
theorem dX8_isClosed_86 : decode cX8_isClosed 86 = .ok (.getfield 10, 3) := by decide +kernel
theorem dX8_isClosed_89 : decode cX8_isClosed 89 = .ok (.iconst 3, 1) := by decide +kernel
theorem dX8_isClosed_90 : decode cX8_isClosed 90 = .ok (.invokevirtual 224, 3) := by decide +kernel
theorem dX8_isClosed_93 : decode cX8_isClosed 93 = .ok (.if_icmp .ne 7, 3) := by decide +kernel
theorem dX8_isClosed_96 : decode cX8_isClosed 96 = .ok (.iconst 1, 1) := by decide +kernel
theorem dX8_isClosed_97 : decode cX8_isClosed 97 = .ok (.goto 4, 3) := by decide +kernel
theorem dX8_isClosed_100 : decode cX8_isClosed 100 = .ok (.iconst 0, 1) := by decide +kernel
theorem dX8_isClosed_101 : decode cX8_isClosed 101 = .ok (.ireturn, 1) := by decide +kernel
theorem dX8_many_0 : decode cX8_many 0 = .ok (.iload_n 1, 1) := by decide +kernel
theorem dX8_many_1 : decode cX8_many 1 = .ok (.iconst 0, 1) := by decide +kernel
theorem dX8_many_2 : decode cX8_many 2 = .ok (.bipush 12, 2) := by decide +kernel
theorem dX8_many_4 : decode cX8_many 4 = .ok (.invokestatic 19, 3) := by decide +kernel
theorem dX8_many_7 : decode cX8_many 7 = .ok (.iload_n 1, 1) := by decide +kernel
theorem dX8_many_8 : decode cX8_many 8 = .ok (.tableswitch 183 0 11 #[64, 72, 80, 88, 96, 104, 112, 120, 139, 150, 161, 172], 64) := by decide +kernel
theorem dX8_many_72 : decode cX8_many 72 = .ok (.aload_n 0, 1) := by decide +kernel
theorem dX8_many_73 : decode cX8_many 73 = .ok (.getfield 10, 3) := by decide +kernel
theorem dX8_many_76 : decode cX8_many 76 = .ok (.getfield 23, 3) := by decide +kernel
theorem dX8_many_79 : decode cX8_many 79 = .ok (.ireturn, 1) := by decide +kernel
theorem dX8_many_80 : decode cX8_many 80 = .ok (.aload_n 0, 1) := by decide +kernel
theorem dX8_many_81 : decode cX8_many 81 = .ok (.getfield 10, 3) := by decide +kernel
theorem dX8_many_84 : decode cX8_many 84 = .ok (.getfield 81, 3) := by decide +kernel
theorem dX8_many_87 : decode cX8_many 87 = .ok (.ireturn, 1) := by decide +kernel
theorem dX8_many_88 : decode cX8_many 88 = .ok (.aload_n 0, 1) := by decide +kernel
theorem dX8_many_89 : decode cX8_many 89 = .ok (.getfield 10, 3) := by decide +kernel
theorem dX8_many_92 : decode cX8_many 92 = .ok (.getfield 99, 3) := by decide +kernel
theorem dX8_many_95 : decode cX8_many 95 = .ok (.ireturn, 1) := by decide +kernel
theorem dX8_many_96 : decode cX8_many 96 = .ok (.aload_n 0, 1) := by decide +kernel
theorem dX8_many_97 : decode cX8_many 97 = .ok (.getfield 10, 3) := by decide +kernel
theorem dX8_many_100 : decode cX8_many 100 = .ok (.getfield 115, 3) := by decide +kernel
theorem dX8_many_103 : decode cX8_many 103 = .ok (.ireturn, 1) := by decide +kernel
theorem dX8_many_104 : decode cX8_many 104 = .ok (.aload_n 0, 1) := by decide +kernel
theorem dX8_many_105 : decode cX8_many 105 = .ok (.getfield 10, 3) := by decide +kernel
theorem dX8_many_108 : decode cX8_many 108 = .ok (.getfield 227, 3) := by decide +kernel
theorem dX8_many_111 : decode cX8_many 111 = .ok (.ireturn, 1) := by decide +kernel
theorem dX8_many_112 : decode cX8_many 112 = .ok (.aload_n 0, 1) := by decide +kernel
theorem dX8_many_113 : decode cX8_many 113 = .ok (.getfield 10, 3) := by decide +kernel
theorem dX8_many_116 : decode cX8_many 116 = .ok (.invokevirtual 230, 3) := by decide +kernel
theorem dX8_many_119 : decode cX8_many 119 = .ok (.ireturn, 1) := by decide +kernel
theorem dX8_many_120 : decode cX8_many 120 = .ok (.aload_n 0, 1) := by decide +kernel
theorem dX8_many_121 : decode cX8_many 121 = .ok (.getfield 10, 3) := by decide +kernel
theorem dX8_many_124 : decode cX8_many 124 = .ok (.invokevirtual 233, 3) := by decide +kernel
theorem dX8_many_127 : decode cX8_many 127 = .ok (.ireturn, 1) := by decide +kernel
theorem dX8_many_128 : decode cX8_many 128 = .ok (.aload_n 0, 1) := by decide +kernel
theorem dX8_many_129 : decode cX8_many 129 = .ok (.getfield 10, 3) := by decide +kernel
theorem dX8_many_132 : decode cX8_many 132 = .ok (.getfield 154, 3) := by decide +kernel
theorem dX8_many_135 : decode cX8_many 135 = .ok (.getfield 163, 3) := by decide +kernel
theorem dX8_many_138 : decode cX8_many 138 = .ok (.ifCond .eq 7, 3) := by decide +kernel
theorem dX8_many_141 : decode cX8_many 141 = .ok (.iconst 1, 1) := by decide +kernel
theorem dX8_many_142 : decode cX8_many 142 = .ok (.goto 4, 3) := by decide +kernel
theorem dX8_many_145 : decode cX8_many 145 = .ok (.iconst 0, 1) := by decide +kernel
theorem dX8_many_146 : decode cX8_many 146 = .ok (.ireturn, 1) := by decide +kernel
theorem dX8_many_147 : decode cX8_many 147 = .ok (.aload_n 0, 1) := by decide +kernel
theorem dX8_many_148 : decode cX8_many 148 = .ok (.getfield 10, 3) := by decide +kernel
theorem dX8_many_151 : decode cX8_many 151 = .ok (.getfield 154, 3) := by decide +kernel
theorem dX8_many_154 : decode cX8_many 154 = .ok (.getfield 158, 3) := by decide +kernel
theorem dX8_many_157 : decode cX8_many 157 = .ok (.ireturn, 1) := by decide +kernel
theorem dX8_many_158 : decode cX8_many 158 = .ok (.aload_n 0, 1) := by decide +kernel
theorem dX8_many_159 : decode cX8_many 159 = .ok (.getfield 10, 3) := by decide +kernel
theorem dX8_many_162 : decode cX8_many 162 = .ok (.getfield 154, 3) := by decide +kernel
theorem dX8_many_165 : decode cX8_many 165 = .ok (.getfield 236, 3) := by decide +kernel
theorem dX8_many_168 : decode cX8_many 168 = .ok (.ireturn, 1) := by decide +kernel
theorem dX8_many_169 : decode cX8_many 169 = .ok (.aload_n 0, 1) := by decide +kernel
theorem dX8_many_170 : decode cX8_many 170 = .ok (.getfield 10, 3) := by decide +kernel
theorem dX8_many_173 : decode cX8_many 173 = .ok (.getfield 154, 3) := by decide +kernel
theorem dX8_many_176 : decode cX8_many 176 = .ok (.getfield 239, 3) := by decide +kernel
theorem dX8_many_179 : decode cX8_many 179 = .ok (.ireturn, 1) := by decide +kernel
theorem dX8_many_180 : decode cX8_many 180 = .ok (.aload_n 0, 1) := by decide +kernel
theorem dX8_many_181 : decode cX8_many 181 = .ok (.getfield 10, 3) := by decide +kernel
theorem dX8_many_184 : decode cX8_many 184 = .ok (.getfield 154, 3) := by decide +kernel
theorem dX8_many_187 : decode cX8_many 187 = .ok (.getfield 242, 3) := by decide +kernel
theorem dX8_many_190 : decode cX8_many 190 = .ok (.ireturn, 1) := by decide +kernel
theorem dX8_many_191 : decode cX8_many 191 = .ok (.aload_n 0, 1) := by decide +kernel
theorem dX8_many_192 : decode cX8_many 192 = .ok (.getfield 10, 3) := by decide +kernel
theorem dX8_many_195 : decode cX8_many 195 = .ok (.invokevirtual 245, 3) := by decide +kernel
theorem dX8_many_198 : decode cX8_many 198 = .ok (.ireturn, 1) := by decide +kernel
theorem dX8_meanWarmth_0 : decode cX8_meanWarmth 0 = .ok (.lconst 0, 1) := by decide +kernel
theorem dX8_meanWarmth_1 : decode cX8_meanWarmth 1 = .ok (.lstore_n 1, 1) := by decide +kernel
theorem dX8_meanWarmth_2 : decode cX8_meanWarmth 2 = .ok (.lconst 0, 1) := by decide +kernel
theorem dX8_meanWarmth_3 : decode cX8_meanWarmth 3 = .ok (.lstore_n 3, 1) := by decide +kernel
theorem dX8_meanWarmth_4 : decode cX8_meanWarmth 4 = .ok (.iconst 0, 1) := by decide +kernel
theorem dX8_meanWarmth_5 : decode cX8_meanWarmth 5 = .ok (.istore 5, 2) := by decide +kernel
theorem dX8_meanWarmth_7 : decode cX8_meanWarmth 7 = .ok (.iload 5, 2) := by decide +kernel
theorem dX8_meanWarmth_9 : decode cX8_meanWarmth 9 = .ok (.aload_n 0, 1) := by decide +kernel
theorem dX8_meanWarmth_10 : decode cX8_meanWarmth 10 = .ok (.getfield 10, 3) := by decide +kernel
theorem dX8_meanWarmth_13 : decode cX8_meanWarmth 13 = .ok (.getfield 23, 3) := by decide +kernel
theorem dX8_meanWarmth_16 : decode cX8_meanWarmth 16 = .ok (.if_icmp .ge 46, 3) := by decide +kernel
theorem dX8_meanWarmth_19 : decode cX8_meanWarmth 19 = .ok (.aload_n 0, 1) := by decide +kernel
theorem dX8_meanWarmth_20 : decode cX8_meanWarmth 20 = .ok (.getfield 10, 3) := by decide +kernel
theorem dX8_meanWarmth_23 : decode cX8_meanWarmth 23 = .ok (.getfield 31, 3) := by decide +kernel
theorem dX8_meanWarmth_26 : decode cX8_meanWarmth 26 = .ok (.iload 5, 2) := by decide +kernel
theorem dX8_meanWarmth_28 : decode cX8_meanWarmth 28 = .ok (.aaload, 1) := by decide +kernel
theorem dX8_meanWarmth_29 : decode cX8_meanWarmth 29 = .ok (.astore 6, 2) := by decide +kernel
theorem dX8_meanWarmth_31 : decode cX8_meanWarmth 31 = .ok (.lload_n 1, 1) := by decide +kernel
theorem dX8_meanWarmth_32 : decode cX8_meanWarmth 32 = .ok (.aload 6, 2) := by decide +kernel
theorem dX8_meanWarmth_34 : decode cX8_meanWarmth 34 = .ok (.invokevirtual 177, 3) := by decide +kernel
theorem dX8_meanWarmth_37 : decode cX8_meanWarmth 37 = .ok (.i2l, 1) := by decide +kernel
theorem dX8_meanWarmth_38 : decode cX8_meanWarmth 38 = .ok (.aload 6, 2) := by decide +kernel
theorem dX8_meanWarmth_40 : decode cX8_meanWarmth 40 = .ok (.getfield 35, 3) := by decide +kernel
theorem dX8_meanWarmth_43 : decode cX8_meanWarmth 43 = .ok (.i2l, 1) := by decide +kernel
theorem dX8_meanWarmth_44 : decode cX8_meanWarmth 44 = .ok (.lmul, 1) := by decide +kernel
theorem dX8_meanWarmth_45 : decode cX8_meanWarmth 45 = .ok (.ladd, 1) := by decide +kernel
theorem dX8_meanWarmth_46 : decode cX8_meanWarmth 46 = .ok (.lstore_n 1, 1) := by decide +kernel
theorem dX8_meanWarmth_47 : decode cX8_meanWarmth 47 = .ok (.lload_n 3, 1) := by decide +kernel
theorem dX8_meanWarmth_48 : decode cX8_meanWarmth 48 = .ok (.aload 6, 2) := by decide +kernel
theorem dX8_meanWarmth_50 : decode cX8_meanWarmth 50 = .ok (.getfield 35, 3) := by decide +kernel
theorem dX8_meanWarmth_53 : decode cX8_meanWarmth 53 = .ok (.i2l, 1) := by decide +kernel
theorem dX8_meanWarmth_54 : decode cX8_meanWarmth 54 = .ok (.ladd, 1) := by decide +kernel
theorem dX8_meanWarmth_55 : decode cX8_meanWarmth 55 = .ok (.lstore_n 3, 1) := by decide +kernel
theorem dX8_meanWarmth_56 : decode cX8_meanWarmth 56 = .ok (.iinc 5 1, 3) := by decide +kernel
theorem dX8_meanWarmth_59 : decode cX8_meanWarmth 59 = .ok (.goto (-52), 3) := by decide +kernel
theorem dX8_meanWarmth_62 : decode cX8_meanWarmth 62 = .ok (.lload_n 3, 1) := by decide +kernel
theorem dX8_meanWarmth_63 : decode cX8_meanWarmth 63 = .ok (.lconst 0, 1) := by decide +kernel
theorem dX8_meanWarmth_64 : decode cX8_meanWarmth 64 = .ok (.lcmp, 1) := by decide +kernel
theorem dX8_meanWarmth_65 : decode cX8_meanWarmth 65 = .ok (.ifCond .le 11, 3) := by decide +kernel
theorem dX8_meanWarmth_68 : decode cX8_meanWarmth 68 = .ok (.lload_n 1, 1) := by decide +kernel
theorem dX8_meanWarmth_69 : decode cX8_meanWarmth 69 = .ok (.l2d, 1) := by decide +kernel
theorem dX8_meanWarmth_70 : decode cX8_meanWarmth 70 = .ok (.lload_n 3, 1) := by decide +kernel
theorem dX8_meanWarmth_71 : decode cX8_meanWarmth 71 = .ok (.l2d, 1) := by decide +kernel
theorem dX8_meanWarmth_72 : decode cX8_meanWarmth 72 = .ok (.ddiv, 1) := by decide +kernel
theorem dX8_meanWarmth_73 : decode cX8_meanWarmth 73 = .ok (.goto 4, 3) := by decide +kernel
theorem dX8_meanWarmth_76 : decode cX8_meanWarmth 76 = .ok (.dconst 0, 1) := by decide +kernel
theorem dX8_meanWarmth_77 : decode cX8_meanWarmth 77 = .ok (.dreturn, 1) := by decide +kernel
theorem dX8_wouldGive_0 : decode cX8_wouldGive 0 = .ok (.iload_n 1, 1) := by decide +kernel
theorem dX8_wouldGive_1 : decode cX8_wouldGive 1 = .ok (.iconst 1, 1) := by decide +kernel
theorem dX8_wouldGive_2 : decode cX8_wouldGive 2 = .ok (.bipush 30, 2) := by decide +kernel
theorem dX8_wouldGive_4 : decode cX8_wouldGive 4 = .ok (.invokestatic 19, 3) := by decide +kernel
theorem dX8_wouldGive_7 : decode cX8_wouldGive 7 = .ok (.aload_n 0, 1) := by decide +kernel
theorem dX8_wouldGive_8 : decode cX8_wouldGive 8 = .ok (.getfield 16, 3) := by decide +kernel
theorem dX8_wouldGive_11 : decode cX8_wouldGive 11 = .ok (.aload_n 0, 1) := by decide +kernel
theorem dX8_wouldGive_12 : decode cX8_wouldGive 12 = .ok (.getfield 10, 3) := by decide +kernel
theorem dX8_wouldGive_15 : decode cX8_wouldGive 15 = .ok (.invokevirtual 247, 3) := by decide +kernel
theorem dX8_wouldGive_18 : decode cX8_wouldGive 18 = .ok (.aload_n 0, 1) := by decide +kernel
theorem dX8_wouldGive_19 : decode cX8_wouldGive 19 = .ok (.getfield 16, 3) := by decide +kernel
theorem dX8_wouldGive_22 : decode cX8_wouldGive 22 = .ok (.iload_n 1, 1) := by decide +kernel
theorem dX8_wouldGive_23 : decode cX8_wouldGive 23 = .ok (.invokestatic 169, 3) := by decide +kernel
theorem dX8_wouldGive_26 : decode cX8_wouldGive 26 = .ok (.ireturn, 1) := by decide +kernel
theorem dX8_coldIn_0 : decode cX8_coldIn 0 = .ok (.iload_n 1, 1) := by decide +kernel
theorem dX8_coldIn_1 : decode cX8_coldIn 1 = .ok (.aload_n 0, 1) := by decide +kernel
theorem dX8_coldIn_2 : decode cX8_coldIn 2 = .ok (.getfield 10, 3) := by decide +kernel
theorem dX8_coldIn_5 : decode cX8_coldIn 5 = .ok (.getfield 99, 3) := by decide +kernel
theorem dX8_coldIn_8 : decode cX8_coldIn 8 = .ok (.invokestatic 71, 3) := by decide +kernel
theorem dX8_coldIn_11 : decode cX8_coldIn 11 = .ok (.iload_n 2, 1) := by decide +kernel
theorem dX8_coldIn_12 : decode cX8_coldIn 12 = .ok (.iconst 0, 1) := by decide +kernel
theorem dX8_coldIn_13 : decode cX8_coldIn 13 = .ok (.sipush 400, 3) := by decide +kernel
theorem dX8_coldIn_16 : decode cX8_coldIn 16 = .ok (.invokestatic 19, 3) := by decide +kernel
theorem dX8_coldIn_19 : decode cX8_coldIn 19 = .ok (.aload_n 0, 1) := by decide +kernel
theorem dX8_coldIn_20 : decode cX8_coldIn 20 = .ok (.getfield 16, 3) := by decide +kernel
theorem dX8_coldIn_23 : decode cX8_coldIn 23 = .ok (.aload_n 0, 1) := by decide +kernel
theorem dX8_coldIn_24 : decode cX8_coldIn 24 = .ok (.getfield 10, 3) := by decide +kernel
theorem dX8_coldIn_27 : decode cX8_coldIn 27 = .ok (.invokevirtual 247, 3) := by decide +kernel
theorem dX8_coldIn_30 : decode cX8_coldIn 30 = .ok (.aload_n 0, 1) := by decide +kernel
theorem dX8_coldIn_31 : decode cX8_coldIn 31 = .ok (.getfield 16, 3) := by decide +kernel
theorem dX8_coldIn_34 : decode cX8_coldIn 34 = .ok (.getfield 31, 3) := by decide +kernel
theorem dX8_coldIn_37 : decode cX8_coldIn 37 = .ok (.aload_n 0, 1) := by decide +kernel
theorem dX8_coldIn_38 : decode cX8_coldIn 38 = .ok (.getfield 16, 3) := by decide +kernel
theorem dX8_coldIn_41 : decode cX8_coldIn 41 = .ok (.getfield 102, 3) := by decide +kernel
theorem dX8_coldIn_44 : decode cX8_coldIn 44 = .ok (.iload_n 1, 1) := by decide +kernel
theorem dX8_coldIn_45 : decode cX8_coldIn 45 = .ok (.aaload, 1) := by decide +kernel
theorem dX8_coldIn_46 : decode cX8_coldIn 46 = .ok (.getfield 106, 3) := by decide +kernel
theorem dX8_coldIn_49 : decode cX8_coldIn 49 = .ok (.aaload, 1) := by decide +kernel
theorem dX8_coldIn_50 : decode cX8_coldIn 50 = .ok (.astore_n 3, 1) := by decide +kernel
theorem dX8_coldIn_51 : decode cX8_coldIn 51 = .ok (.iconst 0, 1) := by decide +kernel
theorem dX8_coldIn_52 : decode cX8_coldIn 52 = .ok (.istore 4, 2) := by decide +kernel
theorem dX8_coldIn_54 : decode cX8_coldIn 54 = .ok (.iload 4, 2) := by decide +kernel
theorem dX8_coldIn_56 : decode cX8_coldIn 56 = .ok (.bipush 30, 2) := by decide +kernel
theorem dX8_coldIn_58 : decode cX8_coldIn 58 = .ok (.if_icmp .ge 24, 3) := by decide +kernel
theorem dX8_coldIn_61 : decode cX8_coldIn 61 = .ok (.aload_n 3, 1) := by decide +kernel
theorem dX8_coldIn_62 : decode cX8_coldIn 62 = .ok (.invokevirtual 177, 3) := by decide +kernel
theorem dX8_coldIn_65 : decode cX8_coldIn 65 = .ok (.iload_n 2, 1) := by decide +kernel
theorem dX8_coldIn_66 : decode cX8_coldIn 66 = .ok (.if_icmp .le 16, 3) := by decide +kernel
theorem dX8_coldIn_69 : decode cX8_coldIn 69 = .ok (.aload_n 0, 1) := by decide +kernel
theorem dX8_coldIn_70 : decode cX8_coldIn 70 = .ok (.getfield 16, 3) := by decide +kernel
theorem dX8_coldIn_73 : decode cX8_coldIn 73 = .ok (.invokevirtual 251, 3) := by decide +kernel
theorem dX8_coldIn_76 : decode cX8_coldIn 76 = .ok (.iinc 4 1, 3) := by decide +kernel
theorem dX8_coldIn_79 : decode cX8_coldIn 79 = .ok (.goto (-25), 3) := by decide +kernel
theorem dX8_coldIn_82 : decode cX8_coldIn 82 = .ok (.aload_n 3, 1) := by decide +kernel
theorem dX8_coldIn_83 : decode cX8_coldIn 83 = .ok (.invokevirtual 177, 3) := by decide +kernel
theorem dX8_coldIn_86 : decode cX8_coldIn 86 = .ok (.iload_n 2, 1) := by decide +kernel
theorem dX8_coldIn_87 : decode cX8_coldIn 87 = .ok (.if_icmp .gt 8, 3) := by decide +kernel
theorem dX8_coldIn_90 : decode cX8_coldIn 90 = .ok (.iload 4, 2) := by decide +kernel
theorem dX8_coldIn_92 : decode cX8_coldIn 92 = .ok (.goto 4, 3) := by decide +kernel
theorem dX8_coldIn_95 : decode cX8_coldIn 95 = .ok (.iconst (-1), 1) := by decide +kernel
theorem dX8_coldIn_96 : decode cX8_coldIn 96 = .ok (.ireturn, 1) := by decide +kernel
theorem dX8_causedBy_0 : decode cX8_causedBy 0 = .ok (.iload_n 1, 1) := by decide +kernel
theorem dX8_causedBy_1 : decode cX8_causedBy 1 = .ok (.aload_n 0, 1) := by decide +kernel
theorem dX8_causedBy_2 : decode cX8_causedBy 2 = .ok (.getfield 10, 3) := by decide +kernel
theorem dX8_causedBy_5 : decode cX8_causedBy 5 = .ok (.getfield 115, 3) := by decide +kernel
theorem dX8_causedBy_8 : decode cX8_causedBy 8 = .ok (.invokestatic 71, 3) := by decide +kernel
theorem dX8_causedBy_11 : decode cX8_causedBy 11 = .ok (.iload_n 2, 1) := by decide +kernel
theorem dX8_causedBy_12 : decode cX8_causedBy 12 = .ok (.aload_n 0, 1) := by decide +kernel
theorem dX8_causedBy_13 : decode cX8_causedBy 13 = .ok (.getfield 10, 3) := by decide +kernel
theorem dX8_causedBy_16 : decode cX8_causedBy 16 = .ok (.getfield 99, 3) := by decide +kernel
theorem dX8_causedBy_19 : decode cX8_causedBy 19 = .ok (.invokestatic 71, 3) := by decide +kernel
theorem dX8_causedBy_22 : decode cX8_causedBy 22 = .ok (.iload_n 3, 1) := by decide +kernel
theorem dX8_causedBy_23 : decode cX8_causedBy 23 = .ok (.iconst 1, 1) := by decide +kernel
theorem dX8_causedBy_24 : decode cX8_causedBy 24 = .ok (.bipush 30, 2) := by decide +kernel
theorem dX8_causedBy_26 : decode cX8_causedBy 26 = .ok (.invokestatic 19, 3) := by decide +kernel
theorem dX8_causedBy_29 : decode cX8_causedBy 29 = .ok (.aload_n 0, 1) := by decide +kernel
theorem dX8_causedBy_30 : decode cX8_causedBy 30 = .ok (.getfield 16, 3) := by decide +kernel
theorem dX8_causedBy_33 : decode cX8_causedBy 33 = .ok (.aload_n 0, 1) := by decide +kernel
theorem dX8_causedBy_34 : decode cX8_causedBy 34 = .ok (.getfield 10, 3) := by decide +kernel
theorem dX8_causedBy_37 : decode cX8_causedBy 37 = .ok (.invokevirtual 247, 3) := by decide +kernel
theorem dX8_causedBy_40 : decode cX8_causedBy 40 = .ok (.aload_n 0, 1) := by decide +kernel
theorem dX8_causedBy_41 : decode cX8_causedBy 41 = .ok (.getfield 16, 3) := by decide +kernel
theorem dX8_causedBy_44 : decode cX8_causedBy 44 = .ok (.iload_n 3, 1) := by decide +kernel
theorem dX8_causedBy_45 : decode cX8_causedBy 45 = .ok (.invokestatic 169, 3) := by decide +kernel
theorem dX8_causedBy_48 : decode cX8_causedBy 48 = .ok (.pop, 1) := by decide +kernel
theorem dX8_causedBy_49 : decode cX8_causedBy 49 = .ok (.aload_n 0, 1) := by decide +kernel
theorem dX8_causedBy_50 : decode cX8_causedBy 50 = .ok (.getfield 16, 3) := by decide +kernel
theorem dX8_causedBy_53 : decode cX8_causedBy 53 = .ok (.getfield 118, 3) := by decide +kernel
theorem dX8_causedBy_56 : decode cX8_causedBy 56 = .ok (.iload_n 1, 1) := by decide +kernel
theorem dX8_causedBy_57 : decode cX8_causedBy 57 = .ok (.aaload, 1) := by decide +kernel
theorem dX8_causedBy_58 : decode cX8_causedBy 58 = .ok (.getfield 198, 3) := by decide +kernel
theorem dX8_causedBy_61 : decode cX8_causedBy 61 = .ok (.istore 4, 2) := by decide +kernel
theorem dX8_causedBy_63 : decode cX8_causedBy 63 = .ok (.aload_n 0, 1) := by decide +kernel
theorem dX8_causedBy_64 : decode cX8_causedBy 64 = .ok (.getfield 16, 3) := by decide +kernel
theorem dX8_causedBy_67 : decode cX8_causedBy 67 = .ok (.aload_n 0, 1) := by decide +kernel
theorem dX8_causedBy_68 : decode cX8_causedBy 68 = .ok (.getfield 10, 3) := by decide +kernel
theorem dX8_causedBy_71 : decode cX8_causedBy 71 = .ok (.invokevirtual 247, 3) := by decide +kernel
theorem dX8_causedBy_74 : decode cX8_causedBy 74 = .ok (.aload_n 0, 1) := by decide +kernel
theorem dX8_causedBy_75 : decode cX8_causedBy 75 = .ok (.getfield 16, 3) := by decide +kernel
theorem dX8_causedBy_78 : decode cX8_causedBy 78 = .ok (.getfield 102, 3) := by decide +kernel
theorem dX8_causedBy_81 : decode cX8_causedBy 81 = .ok (.iload_n 2, 1) := by decide +kernel
theorem dX8_causedBy_82 : decode cX8_causedBy 82 = .ok (.aaload, 1) := by decide +kernel
theorem dX8_causedBy_83 : decode cX8_causedBy 83 = .ok (.iconst 0, 1) := by decide +kernel
theorem dX8_causedBy_84 : decode cX8_causedBy 84 = .ok (.putfield 131, 3) := by decide +kernel
theorem dX8_causedBy_87 : decode cX8_causedBy 87 = .ok (.aload_n 0, 1) := by decide +kernel
theorem dX8_causedBy_88 : decode cX8_causedBy 88 = .ok (.getfield 16, 3) := by decide +kernel
theorem dX8_causedBy_91 : decode cX8_causedBy 91 = .ok (.iload_n 3, 1) := by decide +kernel
theorem dX8_causedBy_92 : decode cX8_causedBy 92 = .ok (.invokestatic 169, 3) := by decide +kernel
theorem dX8_causedBy_95 : decode cX8_causedBy 95 = .ok (.pop, 1) := by decide +kernel
theorem dX8_causedBy_96 : decode cX8_causedBy 96 = .ok (.aload_n 0, 1) := by decide +kernel
theorem dX8_causedBy_97 : decode cX8_causedBy 97 = .ok (.getfield 16, 3) := by decide +kernel
theorem dX8_causedBy_100 : decode cX8_causedBy 100 = .ok (.getfield 118, 3) := by decide +kernel
theorem dX8_causedBy_103 : decode cX8_causedBy 103 = .ok (.iload_n 1, 1) := by decide +kernel
theorem dX8_causedBy_104 : decode cX8_causedBy 104 = .ok (.aaload, 1) := by decide +kernel
theorem dX8_causedBy_105 : decode cX8_causedBy 105 = .ok (.getfield 198, 3) := by decide +kernel
theorem dX8_causedBy_108 : decode cX8_causedBy 108 = .ok (.iload 4, 2) := by decide +kernel
theorem dX8_causedBy_110 : decode cX8_causedBy 110 = .ok (.isub, 1) := by decide +kernel
theorem dX8_causedBy_111 : decode cX8_causedBy 111 = .ok (.ireturn, 1) := by decide +kernel
theorem dX8_bestValves_0 : decode cX8_bestValves 0 = .ok (.iload_n 1, 1) := by decide +kernel
theorem dX8_bestValves_1 : decode cX8_bestValves 1 = .ok (.iconst 1, 1) := by decide +kernel
theorem dX8_bestValves_2 : decode cX8_bestValves 2 = .ok (.bipush 12, 2) := by decide +kernel
theorem dX8_bestValves_4 : decode cX8_bestValves 4 = .ok (.invokestatic 19, 3) := by decide +kernel
theorem dX8_bestValves_7 : decode cX8_bestValves 7 = .ok (.aload_n 0, 1) := by decide +kernel
theorem dX8_bestValves_8 : decode cX8_bestValves 8 = .ok (.getfield 10, 3) := by decide +kernel
theorem dX8_bestValves_11 : decode cX8_bestValves 11 = .ok (.invokevirtual 245, 3) := by decide +kernel
theorem dX8_bestValves_14 : decode cX8_bestValves 14 = .ok (.istore_n 2, 1) := by decide +kernel
theorem dX8_bestValves_15 : decode cX8_bestValves 15 = .ok (.iconst (-1), 1) := by decide +kernel
theorem dX8_bestValves_16 : decode cX8_bestValves 16 = .ok (.istore_n 3, 1) := by decide +kernel
theorem dX8_bestValves_17 : decode cX8_bestValves 17 = .ok (.iconst 0, 1) := by decide +kernel
theorem dX8_bestValves_18 : decode cX8_bestValves 18 = .ok (.istore 4, 2) := by decide +kernel
theorem dX8_bestValves_20 : decode cX8_bestValves 20 = .ok (.iconst 0, 1) := by decide +kernel
theorem dX8_bestValves_21 : decode cX8_bestValves 21 = .ok (.istore 5, 2) := by decide +kernel
theorem dX8_bestValves_23 : decode cX8_bestValves 23 = .ok (.iload 5, 2) := by decide +kernel
theorem dX8_bestValves_25 : decode cX8_bestValves 25 = .ok (.bipush 9, 2) := by decide +kernel
theorem dX8_bestValves_27 : decode cX8_bestValves 27 = .ok (.if_icmp .gt 98, 3) := by decide +kernel
theorem dX8_bestValves_30 : decode cX8_bestValves 30 = .ok (.iconst 0, 1) := by decide +kernel
theorem dX8_bestValves_31 : decode cX8_bestValves 31 = .ok (.istore 6, 2) := by decide +kernel
theorem dX8_bestValves_33 : decode cX8_bestValves 33 = .ok (.iload 6, 2) := by decide +kernel
theorem dX8_bestValves_35 : decode cX8_bestValves 35 = .ok (.bipush 9, 2) := by decide +kernel
theorem dX8_bestValves_37 : decode cX8_bestValves 37 = .ok (.if_icmp .gt 82, 3) := by decide +kernel
theorem dX8_bestValves_40 : decode cX8_bestValves 40 = .ok (.aload_n 0, 1) := by decide +kernel
theorem dX8_bestValves_41 : decode cX8_bestValves 41 = .ok (.getfield 16, 3) := by decide +kernel
theorem dX8_bestValves_44 : decode cX8_bestValves 44 = .ok (.aload_n 0, 1) := by decide +kernel
theorem dX8_bestValves_45 : decode cX8_bestValves 45 = .ok (.getfield 10, 3) := by decide +kernel
theorem dX8_bestValves_48 : decode cX8_bestValves 48 = .ok (.invokevirtual 247, 3) := by decide +kernel
theorem dX8_bestValves_51 : decode cX8_bestValves 51 = .ok (.aload_n 0, 1) := by decide +kernel
theorem dX8_bestValves_52 : decode cX8_bestValves 52 = .ok (.getfield 16, 3) := by decide +kernel
theorem dX8_bestValves_55 : decode cX8_bestValves 55 = .ok (.iload 5, 2) := by decide +kernel
theorem dX8_bestValves_57 : decode cX8_bestValves 57 = .ok (.iload 6, 2) := by decide +kernel
theorem dX8_bestValves_59 : decode cX8_bestValves 59 = .ok (.invokevirtual 254, 3) := by decide +kernel
theorem dX8_bestValves_62 : decode cX8_bestValves 62 = .ok (.aload_n 0, 1) := by decide +kernel
theorem dX8_bestValves_63 : decode cX8_bestValves 63 = .ok (.getfield 16, 3) := by decide +kernel
theorem dX8_bestValves_66 : decode cX8_bestValves 66 = .ok (.iload_n 1, 1) := by decide +kernel
theorem dX8_bestValves_67 : decode cX8_bestValves 67 = .ok (.invokestatic 169, 3) := by decide +kernel
theorem dX8_bestValves_70 : decode cX8_bestValves 70 = .ok (.istore 7, 2) := by decide +kernel
theorem dX8_bestValves_72 : decode cX8_bestValves 72 = .ok (.iload 7, 2) := by decide +kernel
theorem dX8_bestValves_74 : decode cX8_bestValves 74 = .ok (.iconst 3, 1) := by decide +kernel
theorem dX8_bestValves_75 : decode cX8_bestValves 75 = .ok (.aload_n 0, 1) := by decide +kernel
theorem dX8_bestValves_76 : decode cX8_bestValves 76 = .ok (.getfield 16, 3) := by decide +kernel
theorem dX8_bestValves_79 : decode cX8_bestValves 79 = .ok (.invokevirtual 245, 3) := by decide +kernel
theorem dX8_bestValves_82 : decode cX8_bestValves 82 = .ok (.iload_n 2, 1) := by decide +kernel
theorem dX8_bestValves_83 : decode cX8_bestValves 83 = .ok (.isub, 1) := by decide +kernel
theorem dX8_bestValves_84 : decode cX8_bestValves 84 = .ok (.imul, 1) := by decide +kernel
theorem dX8_bestValves_85 : decode cX8_bestValves 85 = .ok (.isub, 1) := by decide +kernel
theorem dX8_bestValves_86 : decode cX8_bestValves 86 = .ok (.istore 8, 2) := by decide +kernel
theorem dX8_bestValves_88 : decode cX8_bestValves 88 = .ok (.iload_n 3, 1) := by decide +kernel
theorem dX8_bestValves_89 : decode cX8_bestValves 89 = .ok (.iconst (-1), 1) := by decide +kernel
theorem dX8_bestValves_90 : decode cX8_bestValves 90 = .ok (.if_icmp .eq 10, 3) := by decide +kernel
theorem dX8_bestValves_93 : decode cX8_bestValves 93 = .ok (.iload 8, 2) := by decide +kernel
theorem dX8_bestValves_95 : decode cX8_bestValves 95 = .ok (.iload 4, 2) := by decide +kernel
theorem dX8_bestValves_97 : decode cX8_bestValves 97 = .ok (.if_icmp .le 16, 3) := by decide +kernel
theorem dX8_bestValves_100 : decode cX8_bestValves 100 = .ok (.bipush 10, 2) := by decide +kernel
theorem dX8_bestValves_102 : decode cX8_bestValves 102 = .ok (.iload 5, 2) := by decide +kernel
theorem dX8_bestValves_104 : decode cX8_bestValves 104 = .ok (.imul, 1) := by decide +kernel
theorem dX8_bestValves_105 : decode cX8_bestValves 105 = .ok (.iload 6, 2) := by decide +kernel
theorem dX8_bestValves_107 : decode cX8_bestValves 107 = .ok (.iadd, 1) := by decide +kernel
theorem dX8_bestValves_108 : decode cX8_bestValves 108 = .ok (.istore_n 3, 1) := by decide +kernel
theorem dX8_bestValves_109 : decode cX8_bestValves 109 = .ok (.iload 8, 2) := by decide +kernel
theorem dX8_bestValves_111 : decode cX8_bestValves 111 = .ok (.istore 4, 2) := by decide +kernel
theorem dX8_bestValves_113 : decode cX8_bestValves 113 = .ok (.iinc 6 3, 3) := by decide +kernel
theorem dX8_bestValves_116 : decode cX8_bestValves 116 = .ok (.goto (-83), 3) := by decide +kernel
theorem dX8_bestValves_119 : decode cX8_bestValves 119 = .ok (.iinc 5 3, 3) := by decide +kernel
theorem dX8_bestValves_122 : decode cX8_bestValves 122 = .ok (.goto (-99), 3) := by decide +kernel
theorem dX8_bestValves_125 : decode cX8_bestValves 125 = .ok (.iload_n 3, 1) := by decide +kernel
theorem dX8_bestValves_126 : decode cX8_bestValves 126 = .ok (.ireturn, 1) := by decide +kernel
theorem dX8_digest_0 : decode cX8_digest 0 = .ok (.ldc2_w 257, 3) := by decide +kernel
theorem dX8_digest_3 : decode cX8_digest 3 = .ok (.lstore_n 1, 1) := by decide +kernel
theorem dX8_digest_4 : decode cX8_digest 4 = .ok (.iconst 0, 1) := by decide +kernel
theorem dX8_digest_5 : decode cX8_digest 5 = .ok (.istore_n 3, 1) := by decide +kernel
theorem dX8_digest_6 : decode cX8_digest 6 = .ok (.iload_n 3, 1) := by decide +kernel
theorem dX8_digest_7 : decode cX8_digest 7 = .ok (.bipush 13, 2) := by decide +kernel
theorem dX8_digest_9 : decode cX8_digest 9 = .ok (.if_icmp .ge 22, 3) := by decide +kernel
theorem dX8_digest_12 : decode cX8_digest 12 = .ok (.lload_n 1, 1) := by decide +kernel
theorem dX8_digest_13 : decode cX8_digest 13 = .ok (.ldc2_w 259, 3) := by decide +kernel
theorem dX8_digest_16 : decode cX8_digest 16 = .ok (.lmul, 1) := by decide +kernel
theorem dX8_digest_17 : decode cX8_digest 17 = .ok (.aload_n 0, 1) := by decide +kernel
theorem dX8_digest_18 : decode cX8_digest 18 = .ok (.iload_n 3, 1) := by decide +kernel
theorem dX8_digest_19 : decode cX8_digest 19 = .ok (.invokevirtual 261, 3) := by decide +kernel
theorem dX8_digest_22 : decode cX8_digest 22 = .ok (.i2l, 1) := by decide +kernel
theorem dX8_digest_23 : decode cX8_digest 23 = .ok (.ladd, 1) := by decide +kernel
theorem dX8_digest_24 : decode cX8_digest 24 = .ok (.lstore_n 1, 1) := by decide +kernel
theorem dX8_digest_25 : decode cX8_digest 25 = .ok (.iinc 3 1, 3) := by decide +kernel
theorem dX8_digest_28 : decode cX8_digest 28 = .ok (.goto (-22), 3) := by decide +kernel
theorem dX8_digest_31 : decode cX8_digest 31 = .ok (.iconst 0, 1) := by decide +kernel
theorem dX8_digest_32 : decode cX8_digest 32 = .ok (.istore_n 3, 1) := by decide +kernel
theorem dX8_digest_33 : decode cX8_digest 33 = .ok (.iload_n 3, 1) := by decide +kernel
theorem dX8_digest_34 : decode cX8_digest 34 = .ok (.aload_n 0, 1) := by decide +kernel
theorem dX8_digest_35 : decode cX8_digest 35 = .ok (.getfield 10, 3) := by decide +kernel
theorem dX8_digest_38 : decode cX8_digest 38 = .ok (.getfield 23, 3) := by decide +kernel
theorem dX8_digest_41 : decode cX8_digest 41 = .ok (.if_icmp .ge 40, 3) := by decide +kernel
theorem dX8_digest_44 : decode cX8_digest 44 = .ok (.iconst 0, 1) := by decide +kernel
theorem dX8_digest_45 : decode cX8_digest 45 = .ok (.istore 4, 2) := by decide +kernel
theorem dX8_digest_47 : decode cX8_digest 47 = .ok (.iload 4, 2) := by decide +kernel
theorem dX8_digest_49 : decode cX8_digest 49 = .ok (.bipush 6, 2) := by decide +kernel
theorem dX8_digest_51 : decode cX8_digest 51 = .ok (.if_icmp .ge 24, 3) := by decide +kernel
theorem dX8_digest_54 : decode cX8_digest 54 = .ok (.lload_n 1, 1) := by decide +kernel
theorem dX8_digest_55 : decode cX8_digest 55 = .ok (.ldc2_w 259, 3) := by decide +kernel
theorem dX8_digest_58 : decode cX8_digest 58 = .ok (.lmul, 1) := by decide +kernel
theorem dX8_digest_59 : decode cX8_digest 59 = .ok (.aload_n 0, 1) := by decide +kernel
theorem dX8_digest_60 : decode cX8_digest 60 = .ok (.iload_n 3, 1) := by decide +kernel
theorem dX8_digest_61 : decode cX8_digest 61 = .ok (.iload 4, 2) := by decide +kernel
theorem dX8_digest_63 : decode cX8_digest 63 = .ok (.invokevirtual 264, 3) := by decide +kernel
theorem dX8_digest_66 : decode cX8_digest 66 = .ok (.i2l, 1) := by decide +kernel
theorem dX8_digest_67 : decode cX8_digest 67 = .ok (.ladd, 1) := by decide +kernel
theorem dX8_digest_68 : decode cX8_digest 68 = .ok (.lstore_n 1, 1) := by decide +kernel
theorem dX8_digest_69 : decode cX8_digest 69 = .ok (.iinc 4 1, 3) := by decide +kernel
theorem dX8_digest_72 : decode cX8_digest 72 = .ok (.goto (-25), 3) := by decide +kernel
theorem dX8_digest_75 : decode cX8_digest 75 = .ok (.iinc 3 1, 3) := by decide +kernel
theorem dX8_digest_78 : decode cX8_digest 78 = .ok (.goto (-45), 3) := by decide +kernel
theorem dX8_digest_81 : decode cX8_digest 81 = .ok (.iconst 0, 1) := by decide +kernel
theorem dX8_digest_82 : decode cX8_digest 82 = .ok (.istore_n 3, 1) := by decide +kernel
theorem dX8_digest_83 : decode cX8_digest 83 = .ok (.iload_n 3, 1) := by decide +kernel
theorem dX8_digest_84 : decode cX8_digest 84 = .ok (.aload_n 0, 1) := by decide +kernel
theorem dX8_digest_85 : decode cX8_digest 85 = .ok (.getfield 10, 3) := by decide +kernel
theorem dX8_digest_88 : decode cX8_digest 88 = .ok (.getfield 99, 3) := by decide +kernel
theorem dX8_digest_91 : decode cX8_digest 91 = .ok (.if_icmp .ge 55, 3) := by decide +kernel
theorem dX8_digest_94 : decode cX8_digest 94 = .ok (.iconst 0, 1) := by decide +kernel
theorem dX8_digest_95 : decode cX8_digest 95 = .ok (.istore 4, 2) := by decide +kernel
theorem dX8_digest_97 : decode cX8_digest 97 = .ok (.iload 4, 2) := by decide +kernel
theorem dX8_digest_99 : decode cX8_digest 99 = .ok (.bipush 9, 2) := by decide +kernel
theorem dX8_digest_101 : decode cX8_digest 101 = .ok (.if_icmp .ge 24, 3) := by decide +kernel
theorem dX8_digest_104 : decode cX8_digest 104 = .ok (.lload_n 1, 1) := by decide +kernel
theorem dX8_digest_105 : decode cX8_digest 105 = .ok (.ldc2_w 259, 3) := by decide +kernel
theorem dX8_digest_108 : decode cX8_digest 108 = .ok (.lmul, 1) := by decide +kernel
theorem dX8_digest_109 : decode cX8_digest 109 = .ok (.aload_n 0, 1) := by decide +kernel
theorem dX8_digest_110 : decode cX8_digest 110 = .ok (.iload_n 3, 1) := by decide +kernel
theorem dX8_digest_111 : decode cX8_digest 111 = .ok (.iload 4, 2) := by decide +kernel
theorem dX8_digest_113 : decode cX8_digest 113 = .ok (.invokevirtual 268, 3) := by decide +kernel
theorem dX8_digest_116 : decode cX8_digest 116 = .ok (.i2l, 1) := by decide +kernel
theorem dX8_digest_117 : decode cX8_digest 117 = .ok (.ladd, 1) := by decide +kernel
theorem dX8_digest_118 : decode cX8_digest 118 = .ok (.lstore_n 1, 1) := by decide +kernel
theorem dX8_digest_119 : decode cX8_digest 119 = .ok (.iinc 4 1, 3) := by decide +kernel
theorem dX8_digest_122 : decode cX8_digest 122 = .ok (.goto (-25), 3) := by decide +kernel
theorem dX8_digest_125 : decode cX8_digest 125 = .ok (.lload_n 1, 1) := by decide +kernel
theorem dX8_digest_126 : decode cX8_digest 126 = .ok (.ldc2_w 259, 3) := by decide +kernel
theorem dX8_digest_129 : decode cX8_digest 129 = .ok (.lmul, 1) := by decide +kernel
theorem dX8_digest_130 : decode cX8_digest 130 = .ok (.aload_n 0, 1) := by decide +kernel
theorem dX8_digest_131 : decode cX8_digest 131 = .ok (.iload_n 3, 1) := by decide +kernel
theorem dX8_digest_132 : decode cX8_digest 132 = .ok (.bipush 100, 2) := by decide +kernel
theorem dX8_digest_134 : decode cX8_digest 134 = .ok (.invokevirtual 271, 3) := by decide +kernel
theorem dX8_digest_137 : decode cX8_digest 137 = .ok (.i2l, 1) := by decide +kernel
theorem dX8_digest_138 : decode cX8_digest 138 = .ok (.ladd, 1) := by decide +kernel
theorem dX8_digest_139 : decode cX8_digest 139 = .ok (.lstore_n 1, 1) := by decide +kernel
theorem dX8_digest_140 : decode cX8_digest 140 = .ok (.iinc 3 1, 3) := by decide +kernel
theorem dX8_digest_143 : decode cX8_digest 143 = .ok (.goto (-60), 3) := by decide +kernel
theorem dX8_digest_146 : decode cX8_digest 146 = .ok (.iconst 0, 1) := by decide +kernel
theorem dX8_digest_147 : decode cX8_digest 147 = .ok (.istore_n 3, 1) := by decide +kernel
theorem dX8_digest_148 : decode cX8_digest 148 = .ok (.iload_n 3, 1) := by decide +kernel
theorem dX8_digest_149 : decode cX8_digest 149 = .ok (.aload_n 0, 1) := by decide +kernel
theorem dX8_digest_150 : decode cX8_digest 150 = .ok (.getfield 10, 3) := by decide +kernel
theorem dX8_digest_153 : decode cX8_digest 153 = .ok (.getfield 81, 3) := by decide +kernel
theorem dX8_digest_156 : decode cX8_digest 156 = .ok (.if_icmp .ge 37, 3) := by decide +kernel
theorem dX8_digest_159 : decode cX8_digest 159 = .ok (.lload_n 1, 1) := by decide +kernel
theorem dX8_digest_160 : decode cX8_digest 160 = .ok (.ldc2_w 259, 3) := by decide +kernel
theorem dX8_digest_163 : decode cX8_digest 163 = .ok (.lmul, 1) := by decide +kernel
theorem dX8_digest_164 : decode cX8_digest 164 = .ok (.aload_n 0, 1) := by decide +kernel
theorem dX8_digest_165 : decode cX8_digest 165 = .ok (.iload_n 3, 1) := by decide +kernel
theorem dX8_digest_166 : decode cX8_digest 166 = .ok (.iconst 1, 1) := by decide +kernel
theorem dX8_digest_167 : decode cX8_digest 167 = .ok (.invokevirtual 274, 3) := by decide +kernel
theorem dX8_digest_170 : decode cX8_digest 170 = .ok (.i2l, 1) := by decide +kernel
theorem dX8_digest_171 : decode cX8_digest 171 = .ok (.ladd, 1) := by decide +kernel
theorem dX8_digest_172 : decode cX8_digest 172 = .ok (.lstore_n 1, 1) := by decide +kernel
theorem dX8_digest_173 : decode cX8_digest 173 = .ok (.lload_n 1, 1) := by decide +kernel
theorem dX8_digest_174 : decode cX8_digest 174 = .ok (.ldc2_w 259, 3) := by decide +kernel
theorem dX8_digest_177 : decode cX8_digest 177 = .ok (.lmul, 1) := by decide +kernel
theorem dX8_digest_178 : decode cX8_digest 178 = .ok (.aload_n 0, 1) := by decide +kernel
theorem dX8_digest_179 : decode cX8_digest 179 = .ok (.iload_n 3, 1) := by decide +kernel
theorem dX8_digest_180 : decode cX8_digest 180 = .ok (.iconst 0, 1) := by decide +kernel
theorem dX8_digest_181 : decode cX8_digest 181 = .ok (.invokevirtual 274, 3) := by decide +kernel
theorem dX8_digest_184 : decode cX8_digest 184 = .ok (.i2l, 1) := by decide +kernel
theorem dX8_digest_185 : decode cX8_digest 185 = .ok (.ladd, 1) := by decide +kernel
theorem dX8_digest_186 : decode cX8_digest 186 = .ok (.lstore_n 1, 1) := by decide +kernel
theorem dX8_digest_187 : decode cX8_digest 187 = .ok (.iinc 3 1, 3) := by decide +kernel
theorem dX8_digest_190 : decode cX8_digest 190 = .ok (.goto (-42), 3) := by decide +kernel
theorem dX8_digest_193 : decode cX8_digest 193 = .ok (.iconst 0, 1) := by decide +kernel
theorem dX8_digest_194 : decode cX8_digest 194 = .ok (.istore_n 3, 1) := by decide +kernel
theorem dX8_digest_195 : decode cX8_digest 195 = .ok (.iload_n 3, 1) := by decide +kernel
theorem dX8_digest_196 : decode cX8_digest 196 = .ok (.aload_n 0, 1) := by decide +kernel
theorem dX8_digest_197 : decode cX8_digest 197 = .ok (.getfield 10, 3) := by decide +kernel
theorem dX8_digest_200 : decode cX8_digest 200 = .ok (.getfield 115, 3) := by decide +kernel
theorem dX8_digest_203 : decode cX8_digest 203 = .ok (.if_icmp .ge 76, 3) := by decide +kernel
theorem dX8_digest_206 : decode cX8_digest 206 = .ok (.iconst 0, 1) := by decide +kernel
theorem dX8_digest_207 : decode cX8_digest 207 = .ok (.istore 4, 2) := by decide +kernel
theorem dX8_digest_209 : decode cX8_digest 209 = .ok (.iload 4, 2) := by decide +kernel
theorem dX8_digest_211 : decode cX8_digest 211 = .ok (.iconst 4, 1) := by decide +kernel
theorem dX8_digest_212 : decode cX8_digest 212 = .ok (.if_icmp .ge 24, 3) := by decide +kernel
theorem dX8_digest_215 : decode cX8_digest 215 = .ok (.lload_n 1, 1) := by decide +kernel
theorem dX8_digest_216 : decode cX8_digest 216 = .ok (.ldc2_w 259, 3) := by decide +kernel
theorem dX8_digest_219 : decode cX8_digest 219 = .ok (.lmul, 1) := by decide +kernel
theorem dX8_digest_220 : decode cX8_digest 220 = .ok (.aload_n 0, 1) := by decide +kernel
theorem dX8_digest_221 : decode cX8_digest 221 = .ok (.iload_n 3, 1) := by decide +kernel
theorem dX8_digest_222 : decode cX8_digest 222 = .ok (.iload 4, 2) := by decide +kernel
theorem dX8_digest_224 : decode cX8_digest 224 = .ok (.invokevirtual 278, 3) := by decide +kernel
theorem dX8_digest_227 : decode cX8_digest 227 = .ok (.i2l, 1) := by decide +kernel
theorem dX8_digest_228 : decode cX8_digest 228 = .ok (.ladd, 1) := by decide +kernel
theorem dX8_digest_229 : decode cX8_digest 229 = .ok (.lstore_n 1, 1) := by decide +kernel
theorem dX8_digest_230 : decode cX8_digest 230 = .ok (.iinc 4 1, 3) := by decide +kernel
theorem dX8_digest_233 : decode cX8_digest 233 = .ok (.goto (-24), 3) := by decide +kernel
theorem dX8_digest_236 : decode cX8_digest 236 = .ok (.iconst 0, 1) := by decide +kernel
theorem dX8_digest_237 : decode cX8_digest 237 = .ok (.istore 4, 2) := by decide +kernel
theorem dX8_digest_239 : decode cX8_digest 239 = .ok (.iload 4, 2) := by decide +kernel
theorem dX8_digest_241 : decode cX8_digest 241 = .ok (.aload_n 0, 1) := by decide +kernel
theorem dX8_digest_242 : decode cX8_digest 242 = .ok (.getfield 10, 3) := by decide +kernel
theorem dX8_digest_245 : decode cX8_digest 245 = .ok (.getfield 99, 3) := by decide +kernel
theorem dX8_digest_248 : decode cX8_digest 248 = .ok (.if_icmp .ge 25, 3) := by decide +kernel
theorem dX8_digest_251 : decode cX8_digest 251 = .ok (.lload_n 1, 1) := by decide +kernel
theorem dX8_digest_252 : decode cX8_digest 252 = .ok (.ldc2_w 259, 3) := by decide +kernel
theorem dX8_digest_255 : decode cX8_digest 255 = .ok (.lmul, 1) := by decide +kernel
theorem dX8_digest_256 : decode cX8_digest 256 = .ok (.aload_n 0, 1) := by decide +kernel
theorem dX8_digest_257 : decode cX8_digest 257 = .ok (.iload_n 3, 1) := by decide +kernel
theorem dX8_digest_258 : decode cX8_digest 258 = .ok (.iload 4, 2) := by decide +kernel
theorem dX8_digest_260 : decode cX8_digest 260 = .ok (.iconst 3, 1) := by decide +kernel
theorem dX8_digest_261 : decode cX8_digest 261 = .ok (.invokevirtual 281, 3) := by decide +kernel
theorem dX8_digest_264 : decode cX8_digest 264 = .ok (.i2l, 1) := by decide +kernel
theorem dX8_digest_265 : decode cX8_digest 265 = .ok (.ladd, 1) := by decide +kernel
theorem dX8_digest_266 : decode cX8_digest 266 = .ok (.lstore_n 1, 1) := by decide +kernel
theorem dX8_digest_267 : decode cX8_digest 267 = .ok (.iinc 4 1, 3) := by decide +kernel
theorem dX8_digest_270 : decode cX8_digest 270 = .ok (.goto (-31), 3) := by decide +kernel
theorem dX8_digest_273 : decode cX8_digest 273 = .ok (.iinc 3 1, 3) := by decide +kernel
theorem dX8_digest_276 : decode cX8_digest 276 = .ok (.goto (-81), 3) := by decide +kernel
theorem dX8_digest_279 : decode cX8_digest 279 = .ok (.iconst 0, 1) := by decide +kernel
theorem dX8_digest_280 : decode cX8_digest 280 = .ok (.istore_n 3, 1) := by decide +kernel
theorem dX8_digest_281 : decode cX8_digest 281 = .ok (.iload_n 3, 1) := by decide +kernel
theorem dX8_digest_282 : decode cX8_digest 282 = .ok (.iconst 4, 1) := by decide +kernel
theorem dX8_digest_283 : decode cX8_digest 283 = .ok (.if_icmp .ge 22, 3) := by decide +kernel
theorem dX8_digest_286 : decode cX8_digest 286 = .ok (.lload_n 1, 1) := by decide +kernel
theorem dX8_digest_287 : decode cX8_digest 287 = .ok (.ldc2_w 259, 3) := by decide +kernel
theorem dX8_digest_290 : decode cX8_digest 290 = .ok (.lmul, 1) := by decide +kernel
theorem dX8_digest_291 : decode cX8_digest 291 = .ok (.aload_n 0, 1) := by decide +kernel
theorem dX8_digest_292 : decode cX8_digest 292 = .ok (.iload_n 3, 1) := by decide +kernel
theorem dX8_digest_293 : decode cX8_digest 293 = .ok (.invokevirtual 285, 3) := by decide +kernel
theorem dX8_digest_296 : decode cX8_digest 296 = .ok (.i2l, 1) := by decide +kernel
theorem dX8_digest_297 : decode cX8_digest 297 = .ok (.ladd, 1) := by decide +kernel
theorem dX8_digest_298 : decode cX8_digest 298 = .ok (.lstore_n 1, 1) := by decide +kernel
theorem dX8_digest_299 : decode cX8_digest 299 = .ok (.iinc 3 1, 3) := by decide +kernel
theorem dX8_digest_302 : decode cX8_digest 302 = .ok (.goto (-21), 3) := by decide +kernel
theorem dX8_digest_305 : decode cX8_digest 305 = .ok (.iconst 0, 1) := by decide +kernel
theorem dX8_digest_306 : decode cX8_digest 306 = .ok (.istore_n 3, 1) := by decide +kernel
theorem dX8_digest_307 : decode cX8_digest 307 = .ok (.iload_n 3, 1) := by decide +kernel
theorem dX8_digest_308 : decode cX8_digest 308 = .ok (.iconst 2, 1) := by decide +kernel
theorem dX8_digest_309 : decode cX8_digest 309 = .ok (.if_icmp .ge 39, 3) := by decide +kernel
theorem dX8_digest_312 : decode cX8_digest 312 = .ok (.iconst 0, 1) := by decide +kernel
theorem dX8_digest_313 : decode cX8_digest 313 = .ok (.istore 4, 2) := by decide +kernel
theorem dX8_digest_315 : decode cX8_digest 315 = .ok (.iload 4, 2) := by decide +kernel
theorem dX8_digest_317 : decode cX8_digest 317 = .ok (.iconst 2, 1) := by decide +kernel
theorem dX8_digest_318 : decode cX8_digest 318 = .ok (.if_icmp .ge 24, 3) := by decide +kernel
theorem dX8_digest_321 : decode cX8_digest 321 = .ok (.lload_n 1, 1) := by decide +kernel
theorem dX8_digest_322 : decode cX8_digest 322 = .ok (.ldc2_w 259, 3) := by decide +kernel
theorem dX8_digest_325 : decode cX8_digest 325 = .ok (.lmul, 1) := by decide +kernel
theorem dX8_digest_326 : decode cX8_digest 326 = .ok (.aload_n 0, 1) := by decide +kernel
theorem dX8_digest_327 : decode cX8_digest 327 = .ok (.iload_n 3, 1) := by decide +kernel
theorem dX8_digest_328 : decode cX8_digest 328 = .ok (.iload 4, 2) := by decide +kernel
theorem dX8_digest_330 : decode cX8_digest 330 = .ok (.invokevirtual 287, 3) := by decide +kernel
theorem dX8_digest_333 : decode cX8_digest 333 = .ok (.i2l, 1) := by decide +kernel
theorem dX8_digest_334 : decode cX8_digest 334 = .ok (.ladd, 1) := by decide +kernel
theorem dX8_digest_335 : decode cX8_digest 335 = .ok (.lstore_n 1, 1) := by decide +kernel
theorem dX8_digest_336 : decode cX8_digest 336 = .ok (.iinc 4 1, 3) := by decide +kernel
theorem dX8_digest_339 : decode cX8_digest 339 = .ok (.goto (-24), 3) := by decide +kernel
theorem dX8_digest_342 : decode cX8_digest 342 = .ok (.iinc 3 1, 3) := by decide +kernel
theorem dX8_digest_345 : decode cX8_digest 345 = .ok (.goto (-38), 3) := by decide +kernel
theorem dX8_digest_348 : decode cX8_digest 348 = .ok (.iconst 0, 1) := by decide +kernel
theorem dX8_digest_349 : decode cX8_digest 349 = .ok (.istore_n 3, 1) := by decide +kernel
theorem dX8_digest_350 : decode cX8_digest 350 = .ok (.iload_n 3, 1) := by decide +kernel
theorem dX8_digest_351 : decode cX8_digest 351 = .ok (.bipush 7, 2) := by decide +kernel
theorem dX8_digest_353 : decode cX8_digest 353 = .ok (.if_icmp .ge 22, 3) := by decide +kernel
theorem dX8_digest_356 : decode cX8_digest 356 = .ok (.lload_n 1, 1) := by decide +kernel
theorem dX8_digest_357 : decode cX8_digest 357 = .ok (.ldc2_w 259, 3) := by decide +kernel
theorem dX8_digest_360 : decode cX8_digest 360 = .ok (.lmul, 1) := by decide +kernel
theorem dX8_digest_361 : decode cX8_digest 361 = .ok (.aload_n 0, 1) := by decide +kernel
theorem dX8_digest_362 : decode cX8_digest 362 = .ok (.iload_n 3, 1) := by decide +kernel
theorem dX8_digest_363 : decode cX8_digest 363 = .ok (.invokevirtual 290, 3) := by decide +kernel
theorem dX8_digest_366 : decode cX8_digest 366 = .ok (.i2l, 1) := by decide +kernel
theorem dX8_digest_367 : decode cX8_digest 367 = .ok (.ladd, 1) := by decide +kernel
theorem dX8_digest_368 : decode cX8_digest 368 = .ok (.lstore_n 1, 1) := by decide +kernel
theorem dX8_digest_369 : decode cX8_digest 369 = .ok (.iinc 3 1, 3) := by decide +kernel
theorem dX8_digest_372 : decode cX8_digest 372 = .ok (.goto (-22), 3) := by decide +kernel
theorem dX8_digest_375 : decode cX8_digest 375 = .ok (.lload_n 1, 1) := by decide +kernel
theorem dX8_digest_376 : decode cX8_digest 376 = .ok (.ldc2_w 259, 3) := by decide +kernel
theorem dX8_digest_379 : decode cX8_digest 379 = .ok (.lmul, 1) := by decide +kernel
theorem dX8_digest_380 : decode cX8_digest 380 = .ok (.aload_n 0, 1) := by decide +kernel
theorem dX8_digest_381 : decode cX8_digest 381 = .ok (.invokevirtual 292, 3) := by decide +kernel
theorem dX8_digest_384 : decode cX8_digest 384 = .ok (.ifCond .eq 7, 3) := by decide +kernel
theorem dX8_digest_387 : decode cX8_digest 387 = .ok (.iconst 1, 1) := by decide +kernel
theorem dX8_digest_388 : decode cX8_digest 388 = .ok (.goto 4, 3) := by decide +kernel
theorem dX8_digest_391 : decode cX8_digest 391 = .ok (.iconst 0, 1) := by decide +kernel
theorem dX8_digest_392 : decode cX8_digest 392 = .ok (.i2l, 1) := by decide +kernel
theorem dX8_digest_393 : decode cX8_digest 393 = .ok (.ladd, 1) := by decide +kernel
theorem dX8_digest_394 : decode cX8_digest 394 = .ok (.lstore_n 1, 1) := by decide +kernel
theorem dX8_digest_395 : decode cX8_digest 395 = .ok (.lload_n 1, 1) := by decide +kernel
theorem dX8_digest_396 : decode cX8_digest 396 = .ok (.ldc2_w 259, 3) := by decide +kernel
theorem dX8_digest_399 : decode cX8_digest 399 = .ok (.lmul, 1) := by decide +kernel
theorem dX8_digest_400 : decode cX8_digest 400 = .ok (.aload_n 0, 1) := by decide +kernel
theorem dX8_digest_401 : decode cX8_digest 401 = .ok (.iconst 4, 1) := by decide +kernel
theorem dX8_digest_402 : decode cX8_digest 402 = .ok (.invokevirtual 296, 3) := by decide +kernel
theorem dX8_digest_405 : decode cX8_digest 405 = .ok (.i2l, 1) := by decide +kernel
theorem dX8_digest_406 : decode cX8_digest 406 = .ok (.ladd, 1) := by decide +kernel
theorem dX8_digest_407 : decode cX8_digest 407 = .ok (.lstore_n 1, 1) := by decide +kernel
theorem dX8_digest_408 : decode cX8_digest 408 = .ok (.lload_n 1, 1) := by decide +kernel
theorem dX8_digest_409 : decode cX8_digest 409 = .ok (.ldc2_w 259, 3) := by decide +kernel
theorem dX8_digest_412 : decode cX8_digest 412 = .ok (.lmul, 1) := by decide +kernel
theorem dX8_digest_413 : decode cX8_digest 413 = .ok (.aload_n 0, 1) := by decide +kernel
theorem dX8_digest_414 : decode cX8_digest 414 = .ok (.iconst 3, 1) := by decide +kernel
theorem dX8_digest_415 : decode cX8_digest 415 = .ok (.invokevirtual 299, 3) := by decide +kernel
theorem dX8_digest_418 : decode cX8_digest 418 = .ok (.i2l, 1) := by decide +kernel
theorem dX8_digest_419 : decode cX8_digest 419 = .ok (.ladd, 1) := by decide +kernel
theorem dX8_digest_420 : decode cX8_digest 420 = .ok (.lreturn, 1) := by decide +kernel
theorem dX8_needRange_0 : decode cX8_needRange 0 = .ok (.iload_n 0, 1) := by decide +kernel
theorem dX8_needRange_1 : decode cX8_needRange 1 = .ok (.iload_n 1, 1) := by decide +kernel
theorem dX8_needRange_2 : decode cX8_needRange 2 = .ok (.if_icmp .lt 8, 3) := by decide +kernel
theorem dX8_needRange_5 : decode cX8_needRange 5 = .ok (.iload_n 0, 1) := by decide +kernel
theorem dX8_needRange_6 : decode cX8_needRange 6 = .ok (.iload_n 2, 1) := by decide +kernel
theorem dX8_needRange_7 : decode cX8_needRange 7 = .ok (.if_icmp .le 14, 3) := by decide +kernel
theorem dX8_needRange_10 : decode cX8_needRange 10 = .ok (.new 74, 3) := by decide +kernel
theorem dX8_needRange_13 : decode cX8_needRange 13 = .ok (.dup, 1) := by decide +kernel
theorem dX8_needRange_14 : decode cX8_needRange 14 = .ok (.ldc_w 302, 3) := by decide +kernel
theorem dX8_needRange_17 : decode cX8_needRange 17 = .ok (.invokespecial 78, 3) := by decide +kernel
theorem dX8_needRange_20 : decode cX8_needRange 20 = .ok (.athrow, 1) := by decide +kernel
theorem dX8_needRange_21 : decode cX8_needRange 21 = .ok (.return_, 1) := by decide +kernel
theorem dX8_needIndex_0 : decode cX8_needIndex 0 = .ok (.iload_n 0, 1) := by decide +kernel
theorem dX8_needIndex_1 : decode cX8_needIndex 1 = .ok (.ifCond .lt 8, 3) := by decide +kernel
theorem dX8_needIndex_4 : decode cX8_needIndex 4 = .ok (.iload_n 0, 1) := by decide +kernel
theorem dX8_needIndex_5 : decode cX8_needIndex 5 = .ok (.iload_n 1, 1) := by decide +kernel
theorem dX8_needIndex_6 : decode cX8_needIndex 6 = .ok (.if_icmp .lt 14, 3) := by decide +kernel
theorem dX8_needIndex_9 : decode cX8_needIndex 9 = .ok (.new 304, 3) := by decide +kernel
theorem dX8_needIndex_12 : decode cX8_needIndex 12 = .ok (.dup, 1) := by decide +kernel
theorem dX8_needIndex_13 : decode cX8_needIndex 13 = .ok (.ldc_w 306, 3) := by decide +kernel
theorem dX8_needIndex_16 : decode cX8_needIndex 16 = .ok (.invokespecial 308, 3) := by decide +kernel
theorem dX8_needIndex_19 : decode cX8_needIndex 19 = .ok (.athrow, 1) := by decide +kernel
theorem dX8_needIndex_20 : decode cX8_needIndex 20 = .ok (.return_, 1) := by decide +kernel
theorem dX8_needRoom_0 : decode cX8_needRoom 0 = .ok (.iload_n 0, 1) := by decide +kernel
theorem dX8_needRoom_1 : decode cX8_needRoom 1 = .ok (.iload_n 1, 1) := by decide +kernel
theorem dX8_needRoom_2 : decode cX8_needRoom 2 = .ok (.if_icmp .lt 14, 3) := by decide +kernel
theorem dX8_needRoom_5 : decode cX8_needRoom 5 = .ok (.new 134, 3) := by decide +kernel
theorem dX8_needRoom_8 : decode cX8_needRoom 8 = .ok (.dup, 1) := by decide +kernel
theorem dX8_needRoom_9 : decode cX8_needRoom 9 = .ok (.ldc_w 309, 3) := by decide +kernel
theorem dX8_needRoom_12 : decode cX8_needRoom 12 = .ok (.invokespecial 138, 3) := by decide +kernel
theorem dX8_needRoom_15 : decode cX8_needRoom 15 = .ok (.athrow, 1) := by decide +kernel
theorem dX8_needRoom_16 : decode cX8_needRoom 16 = .ok (.return_, 1) := by decide +kernel
theorem dX8_powerIn_0 : decode cX8_powerIn 0 = .ok (.aload_n 0, 1) := by decide +kernel
theorem dX8_powerIn_1 : decode cX8_powerIn 1 = .ok (.getfield 154, 3) := by decide +kernel
theorem dX8_powerIn_4 : decode cX8_powerIn 4 = .ok (.getfield 239, 3) := by decide +kernel
theorem dX8_powerIn_7 : decode cX8_powerIn 7 = .ok (.istore_n 2, 1) := by decide +kernel
theorem dX8_powerIn_8 : decode cX8_powerIn 8 = .ok (.iconst 0, 1) := by decide +kernel
theorem dX8_powerIn_9 : decode cX8_powerIn 9 = .ok (.istore_n 3, 1) := by decide +kernel
theorem dX8_powerIn_10 : decode cX8_powerIn 10 = .ok (.iload_n 3, 1) := by decide +kernel
theorem dX8_powerIn_11 : decode cX8_powerIn 11 = .ok (.iload_n 1, 1) := by decide +kernel
theorem dX8_powerIn_12 : decode cX8_powerIn 12 = .ok (.if_icmp .ge 13, 3) := by decide +kernel
theorem dX8_powerIn_15 : decode cX8_powerIn 15 = .ok (.aload_n 0, 1) := by decide +kernel
theorem dX8_powerIn_16 : decode cX8_powerIn 16 = .ok (.invokevirtual 251, 3) := by decide +kernel
theorem dX8_powerIn_19 : decode cX8_powerIn 19 = .ok (.iinc 3 1, 3) := by decide +kernel
theorem dX8_powerIn_22 : decode cX8_powerIn 22 = .ok (.goto (-12), 3) := by decide +kernel
theorem dX8_powerIn_25 : decode cX8_powerIn 25 = .ok (.aload_n 0, 1) := by decide +kernel
theorem dX8_powerIn_26 : decode cX8_powerIn 26 = .ok (.getfield 154, 3) := by decide +kernel
theorem dX8_powerIn_29 : decode cX8_powerIn 29 = .ok (.getfield 239, 3) := by decide +kernel
theorem dX8_powerIn_32 : decode cX8_powerIn 32 = .ok (.iload_n 2, 1) := by decide +kernel
theorem dX8_powerIn_33 : decode cX8_powerIn 33 = .ok (.isub, 1) := by decide +kernel
theorem dX8_powerIn_34 : decode cX8_powerIn 34 = .ok (.ireturn, 1) := by decide +kernel
end
section
section ZW2
variable {p : Program} {l : Launch} {e : Env} {R : Room} {s : State} {m : MethodId} {args : Array Value} {below : List Frame} {meth : Method} {c : Code} {H : Heap} {locs : List Loc} {cells slots : Nat} {Q : State → Prop}
variable {cc : ByteArray} {pc : Nat} {ls : Array Slot} {rest : List Value} {D : va_G} {cl : List vw_C} {A : Nat → Prop} {tys : List (ClassId × FieldType)} {H0 : Heap}
variable {fl : Nat → List Bool} {ca : Nat → ClassId} {wd : zD} {ad : Nat → Nat} {M : zM}
theorem zp_i (hexec : p.tables.exec = Jvm.exec) (hb : c.code = cc) {own ref C : String} {T : u_T} {N ci index i k : Nat} {Ts : List Cond} (hts : ∀ w ∈ Ts, w.before args s = true) (hin : ∀ w ∈ u_ws C T N, w ∈ Ts) (ty0 : Nat → FieldType) (hty : ∀ k, k < N → parseFieldDescriptor (T k).2.2.1 = some (ty0 k)) (hnm : ∀ a, a < N → ∀ b, b < N → a ≠ b → (T a).2.1 ≠ (T b).2.1) (hown : s.vm.findClass own = some m.cls) (hK : va_K D cl tys s) (hH : z_H D cl fl ca wd ad M H) (hI : z_I wd ad) (hS0 : va_S A H0 H locs) (hA : ∀ q, z_A wd ad q → A q) (hi : wd.1 i = ci) (hci : ci < 100) (hc : cl[ci]? = some (C, T, N)) (hk : k < N) (hf : (fl ci)[k]? = some false) (hlink : (Cond.fieldLink own index ref (T k).2.1 (T k).2.2.1).before args s = true) (hsame : ∀ x, s.fieldFound? (T k).1 (T k).2.1 (T k).2.2.1 = some x → s.fieldFound? ref (T k).2.1 (T k).2.2.1 = some x) (hfin : (T k).2.2.2 = false) {ty : FieldType} {v : Int32} (hd : parseFieldDescriptor (T k).2.2.1 = some ty) (hn : narrow ty (.int v) = .int v) (hfit : fits ty (.int v) = true)
    (hdg : decode cc pc = .ok (.putfield index, 3)) (kk : ∀ (H1 : Heap) (locs1 : List Loc), z_H D cl fl ca wd ad (zu M i k v) H1 → (∀ q : Nat, q ≠ ad i → H1[q]? = H[q]?) → va_S A H0 H1 locs1 → W p l e R s m args below meth c H1 locs1 cells slots Q (F0 m (pc + 3) ls rest)) : W p l e R s m args below meth c H locs cells slots Q (F0 m pc ls (.int v :: .ref (ad i) :: rest)) := by
  have hap := va_apart (own := own) hts hin ty0 hty hnm hK hc
  have hv : wd.1 i < 200 := by omega
  have h0 := hH i hv
  rw [z_E_o hi hci] at h0
  obtain ⟨r, h1, cell, q1, q2, q3, q4⟩ := h0
  have hr : r = (C, T, N) := Option.some.inj (h1.symm.trans hc)
  subst hr
  obtain ⟨hS, hfc, kC, hkC, hkind⟩ := hK.1 ci _ hc
  obtain ⟨cf, kf, fi, f, hi', hsl⟩ := hS k hk
  have hlay := hts _ (hin _ (u_in_lay hk))
  unfold u_lay at hlay
  rw [if_neg (by rw [hfin]; decide)] at hlay
  have hst := (u_facts hfc hkC (u_lays hts hin hk) hi').1
  have h6 := u_store hfc hkC hkind hlay hi' hd hn hfit
  refine W.putK hexec hb (f := f) ⟨hown, hlink, ⟨_, _, _, hsame _ hi'⟩, hst⟩ (by rw [q2]; exact h6) q1 q3 (by rw [hsl]; exact k2_hasslot (q4 k hk)) rfl rfl hdg fun H' e1 e2 e3 => ?_
  rw [hsl] at e1 ⊢
  exact kk H' _ (hH.put hI hv (z_put_at hc hi hci hk hf hap q2 q3 q4 e1) e3) e3 (hS0.put e2 e3 (hA _ (z_A.in hv)))
theorem zp_iN (hexec : p.tables.exec = Jvm.exec) (hb : c.code = cc) {own ref C host : String} {T : u_T} {N ci index i k : Nat} {Ts : List Cond} (hts : ∀ w ∈ Ts, w.before args s = true) (hin : ∀ w ∈ u_ws C T N, w ∈ Ts) (ty0 : Nat → FieldType) (hty : ∀ k, k < N → parseFieldDescriptor (T k).2.2.1 = some (ty0 k)) (hnm : ∀ a, a < N → ∀ b, b < N → a ≠ b → (T a).2.1 ≠ (T b).2.1) (hown : s.vm.findClass own = some m.cls) (hK : va_K D cl tys s) (hH : z_H D cl fl ca wd ad M H) (hI : z_I wd ad) (hS0 : va_S A H0 H locs) (hA : ∀ q, z_A wd ad q → A q) (hi : wd.1 i = ci) (hci : ci < 100) (hc : cl[ci]? = some (C, T, N)) (hk : k < N) (hf : (fl ci)[k]? = some false) (hlink : va_Nw (Cond.fieldLinkNest own index ref (T k).2.1 (T k).2.2.1 host) s) (hsame : ∀ x, s.fieldFound? (T k).1 (T k).2.1 (T k).2.2.1 = some x → s.fieldFound? ref (T k).2.1 (T k).2.2.1 = some x) (hfin : (T k).2.2.2 = false) {ty : FieldType} {v : Int32} (hd : parseFieldDescriptor (T k).2.2.1 = some ty) (hn : narrow ty (.int v) = .int v) (hfit : fits ty (.int v) = true)
    (hdg : decode cc pc = .ok (.putfield index, 3)) (kk : ∀ (H1 : Heap) (locs1 : List Loc), z_H D cl fl ca wd ad (zu M i k v) H1 → (∀ q : Nat, q ≠ ad i → H1[q]? = H[q]?) → va_S A H0 H1 locs1 → W p l e R s m args below meth c H1 locs1 cells slots Q (F0 m (pc + 3) ls rest)) : W p l e R s m args below meth c H locs cells slots Q (F0 m pc ls (.int v :: .ref (ad i) :: rest)) := by
  have hap := va_apart (own := own) hts hin ty0 hty hnm hK hc
  have hv : wd.1 i < 200 := by omega
  have h0 := hH i hv
  rw [z_E_o hi hci] at h0
  obtain ⟨r, h1, cell, q1, q2, q3, q4⟩ := h0
  have hr : r = (C, T, N) := Option.some.inj (h1.symm.trans hc)
  subst hr
  obtain ⟨hS, hfc, kC, hkC, hkind⟩ := hK.1 ci _ hc
  obtain ⟨cf, kf, fi, f, hi', hsl⟩ := hS k hk
  have hlay := hts _ (hin _ (u_in_lay hk))
  unfold u_lay at hlay
  rw [if_neg (by rw [hfin]; decide)] at hlay
  have hst := (u_facts hfc hkC (u_lays hts hin hk) hi').1
  have h6 := u_store hfc hkC hkind hlay hi' hd hn hfit
  refine va_WputK hexec hb (f := f) hown (va_Nw.use rfl hlink) (hsame _ hi') hst (by rw [q2]; exact h6) q1 q3 (by rw [hsl]; exact k2_hasslot (q4 k hk)) rfl rfl hdg fun H' e1 e2 e3 => ?_
  rw [hsl] at e1 ⊢
  exact kk H' _ (hH.put hI hv (z_put_at hc hi hci hk hf hap q2 q3 q4 e1) e3) e3 (hS0.put e2 e3 (hA _ (z_A.in hv)))
theorem zp_as (hexec : p.tables.exec = Jvm.exec) (hb : c.code = cc) (hK : va_K D cl tys s) (hH : z_H D cl fl ca wd ad M H) (hI : z_I wd ad) (hS : va_S A H0 H locs) (hA : ∀ q, z_A wd ad q → A q) {i t0 : Nat} (hi : wd.1 i = 100) (ht : tys[t0]? = some (ca 100, .int)) {x v : Int32} (hin : vp_in x (wd.2.2 i)) (hdg : decode cc pc = .ok (.iastore, 1))
    (kk : ∀ (H1 : Heap) (locs1 : List Loc), z_H D cl fl ca wd ad (zu M i x.toNatClampNeg v) H1 → (∀ q : Nat, q ≠ ad i → H1[q]? = H[q]?) → va_S A H0 H1 locs1 → W p l e R s m args below meth c H1 locs1 cells slots Q (F0 m (pc + 1) ls rest)) : W p l e R s m args below meth c H locs cells slots Q (F0 m pc ls (.int v :: .int x :: .ref (ad i) :: rest)) := by
  have hv : wd.1 i < 200 := by omega
  have h0 := hH i hv
  rw [z_E_a hi] at h0
  refine W.iast hexec hb h0 ((hK.2 t0 _ ht).1 (wd.2.2 i) (fun j => .int (M i j))) (fun q => by cases q) (by show ¬ (x < 0 ∨ (arrV _ _ _).slots.size ≤ _); rw [arrV_size]; exact hin) rfl rfl hdg fun H1 e z oq => ?_
  refine kk H1 _ (hH.put hI hv ?_ oq) oq (hS.put z oq (hA _ (z_A.in hv)))
  rw [z_E_a hi]
  show H1[ad i]? = some (vp_cell _ _)
  rw [e]
  rw [vp_cell_i, vp_cell_i, arrV_store]
  congr 2
  funext q
  by_cases hq : q = x.toNatClampNeg
  · subst hq
    simp [updV, zu]
  · simp [updV, zu, hq]
end ZW2
theorem z_to {B : Heap → Prop} {t : State} {H : Heap} (ht : t.heap = H) (h : B H) : B t.heap := by
  rw [ht]
  exact h
theorem z_bn {x : Int32} (h : x = 0 ∨ x = 1) : narrow .boolean (.int x) = .int x := by
  rcases h with h | h <;> subst h <;> first | rfl | decide
theorem z_bf {x : Int32} (h : x = 0 ∨ x = 1) : fits .boolean (.int x) = true := by
  rcases h with h | h <;> subst h <;> first | rfl | decide
end
section
/-- the words on nest mates out of the tables -/
def zw_nest : List Cond := [.fieldLinkNest "Steamfield" 47 "Steamfield$Water" "mass" "I" "Steamfield", .fieldLinkNest "Steamfield$Well" 40 "Steamfield$Water" "mass" "I" "Steamfield", .fieldLinkNest "Steamfield$Block" 27 "Steamfield$Water" "mass" "I" "Steamfield", .fieldLinkNest "Steamfield$Land" 204 "Steamfield$Water" "mass" "I" "Steamfield", .fieldLinkNest "Steamfield" 52 "Steamfield$Water" "heat" "I" "Steamfield", .fieldLinkNest "Steamfield$Block" 30 "Steamfield$Water" "heat" "I" "Steamfield", .fieldLinkNest "Steamfield$Land" 213 "Steamfield$Water" "heat" "I" "Steamfield", .fieldLinkNest "Steamfield" 55 "Steamfield$Water" "salt" "I" "Steamfield", .fieldLinkNest "Steamfield$Block" 43 "Steamfield$Water" "salt" "I" "Steamfield", .fieldLinkNest "Steamfield$Land" 233 "Steamfield$Water" "salt" "I" "Steamfield", .fieldLinkNest "Steamfield$Well" 45 "Steamfield$Water" "tracer" "I" "Steamfield", .fieldLinkNest "Steamfield$Block" 49 "Steamfield$Water" "tracer" "I" "Steamfield", .fieldLinkNest "Steamfield" 139 "Steamfield$Water" "tracer" "I" "Steamfield", .fieldLinkNest "Steamfield$Land" 269 "Steamfield$Water" "tracer" "I" "Steamfield", .fieldLinkNest "Steamfield" 158 "Steamfield$Plant" "size" "I" "Steamfield", .fieldLinkNest "Steamfield$Land" 242 "Steamfield$Plant" "size" "I" "Steamfield", .fieldLinkNest "Steamfield" 163 "Steamfield$Plant" "isRunning" "Z" "Steamfield", .fieldLinkNest "Steamfield$Land" 239 "Steamfield$Plant" "isRunning" "Z" "Steamfield", .fieldLinkNest "Steamfield$Land" 245 "Steamfield$Plant" "power" "I" "Steamfield", .fieldLinkNest "Steamfield" 236 "Steamfield$Plant" "power" "I" "Steamfield", .fieldLinkNest "Steamfield$Land" 248 "Steamfield$Plant" "powerEver" "I" "Steamfield", .fieldLinkNest "Steamfield" 239 "Steamfield$Plant" "powerEver" "I" "Steamfield", .fieldLinkNest "Steamfield" 166 "Steamfield$Plant" "need" "I" "Steamfield", .fieldLinkNest "Steamfield$Land" 257 "Steamfield$Plant" "need" "I" "Steamfield", .fieldLinkNest "Steamfield$Land" 260 "Steamfield$Plant" "townHeat" "I" "Steamfield", .fieldLinkNest "Steamfield" 242 "Steamfield$Plant" "townHeat" "I" "Steamfield", .fieldLinkNest "Steamfield" 62 "Steamfield$Books" "told" "LSteamfield$Water;" "Steamfield", .fieldLinkNest "Steamfield$Land" 133 "Steamfield$Books" "spilled" "LSteamfield$Water;" "Steamfield", .fieldLinkNest "Steamfield" 218 "Steamfield$Books" "spilled" "LSteamfield$Water;" "Steamfield", .fieldLinkNest "Steamfield$Land" 136 "Steamfield$Books" "sprung" "LSteamfield$Water;" "Steamfield", .fieldLinkNest "Steamfield" 221 "Steamfield$Books" "sprung" "LSteamfield$Water;" "Steamfield", .fieldLinkNest "Steamfield$Land" 251 "Steamfield$Books" "used" "I" "Steamfield", .fieldLinkNest "Steamfield" 212 "Steamfield$Books" "used" "I" "Steamfield", .fieldLinkNest "Steamfield$Land" 254 "Steamfield$Books" "vented" "I" "Steamfield", .fieldLinkNest "Steamfield" 215 "Steamfield$Books" "vented" "I" "Steamfield", .fieldLinkNest "Steamfield" 43 "Steamfield$Block" "water" "LSteamfield$Water;" "Steamfield", .fieldLinkNest "Steamfield$Land" 123 "Steamfield$Block" "water" "LSteamfield$Water;" "Steamfield", .fieldLinkNest "Steamfield" 35 "Steamfield$Block" "volume" "I" "Steamfield", .fieldLinkNest "Steamfield$Land" 117 "Steamfield$Block" "volume" "I" "Steamfield", .fieldLinkNest "Steamfield" 40 "Steamfield$Block" "owner" "I" "Steamfield", .fieldLinkNest "Steamfield$Land" 114 "Steamfield$Block" "owner" "I" "Steamfield", .fieldLinkNest "Steamfield" 88 "Steamfield$Face" "one" "I" "Steamfield", .fieldLinkNest "Steamfield$Land" 180 "Steamfield$Face" "one" "I" "Steamfield", .fieldLinkNest "Steamfield" 93 "Steamfield$Face" "other" "I" "Steamfield", .fieldLinkNest "Steamfield$Land" 183 "Steamfield$Face" "other" "I" "Steamfield", .fieldLinkNest "Steamfield" 96 "Steamfield$Face" "open" "I" "Steamfield", .fieldLinkNest "Steamfield$Land" 194 "Steamfield$Face" "open" "I" "Steamfield", .fieldLinkNest "Steamfield$Land" 207 "Steamfield$Face" "flow" "I" "Steamfield", .fieldLinkNest "Steamfield" 202 "Steamfield$Face" "flow" "I" "Steamfield", .fieldLinkNest "Steamfield" 106 "Steamfield$Well" "block" "I" "Steamfield", .fieldLinkNest "Steamfield$Land" 220 "Steamfield$Well" "block" "I" "Steamfield", .fieldLinkNest "Steamfield" 111 "Steamfield$Well" "isInjector" "Z" "Steamfield", .fieldLinkNest "Steamfield$Land" 139 "Steamfield$Well" "isInjector" "Z" "Steamfield", .fieldLinkNest "Steamfield" 131 "Steamfield$Well" "valve" "I" "Steamfield", .fieldLinkNest "Steamfield$Land" 143 "Steamfield$Well" "valve" "I" "Steamfield", .fieldLinkNest "Steamfield" 142 "Steamfield$Well" "scale" "I" "Steamfield", .fieldLinkNest "Steamfield$Land" 223 "Steamfield$Well" "scale" "I" "Steamfield", .fieldLinkNest "Steamfield" 151 "Steamfield$Well" "crust" "I" "Steamfield", .fieldLinkNest "Steamfield" 184 "Steamfield$Well" "flow" "I" "Steamfield", .fieldLinkNest "Steamfield" 187 "Steamfield$Well" "steam" "I" "Steamfield", .fieldLinkNest "Steamfield" 190 "Steamfield$Well" "tracer" "I" "Steamfield", .fieldLinkNest "Steamfield" 191 "Steamfield$Well" "flowEver" "I" "Steamfield", .fieldLinkNest "Steamfield" 122 "Steamfield$Spring" "block" "I" "Steamfield", .fieldLinkNest "Steamfield$Land" 275 "Steamfield$Spring" "block" "I" "Steamfield", .fieldLinkNest "Steamfield" 125 "Steamfield$Spring" "level" "I" "Steamfield", .fieldLinkNest "Steamfield$Land" 276 "Steamfield$Spring" "level" "I" "Steamfield", .fieldLinkNest "Steamfield" 128 "Steamfield$Spring" "promise" "I" "Steamfield", .fieldLinkNest "Steamfield" 194 "Steamfield$Spring" "flow" "I" "Steamfield", .fieldLinkNest "Steamfield" 195 "Steamfield$Spring" "lacked" "I" "Steamfield", .fieldLinkNest "Steamfield$Land" 283 "Steamfield$Spring" "lacked" "I" "Steamfield", .fieldLinkNest "Steamfield" 198 "Steamfield$Spring" "flowEver" "I" "Steamfield", .fieldLinkNest "Steamfield$Land" 120 "Steamfield$Spring" "lackedEver" "I" "Steamfield", .fieldLinkNest "Steamfield" 199 "Steamfield$Spring" "lackedEver" "I" "Steamfield", .fieldLinkNest "Steamfield" 31 "Steamfield$Land" "blocks" "[LSteamfield$Block;" "Steamfield", .fieldLinkNest "Steamfield" 84 "Steamfield$Land" "faces" "[LSteamfield$Face;" "Steamfield", .fieldLinkNest "Steamfield" 102 "Steamfield$Land" "wells" "[LSteamfield$Well;" "Steamfield", .fieldLinkNest "Steamfield" 118 "Steamfield$Land" "springs" "[LSteamfield$Spring;" "Steamfield", .fieldLinkNest "Steamfield" 203 "Steamfield$Land" "pond" "LSteamfield$Water;" "Steamfield", .fieldLinkNest "Steamfield" 154 "Steamfield$Land" "plant" "LSteamfield$Plant;" "Steamfield", .fieldLinkNest "Steamfield" 58 "Steamfield$Land" "books" "LSteamfield$Books;" "Steamfield", .fieldLinkNest "Steamfield" 145 "Steamfield$Land" "coins" "[I" "Steamfield", .fieldLinkNest "Steamfield" 23 "Steamfield$Land" "blockCount" "I" "Steamfield", .fieldLinkNest "Steamfield" 81 "Steamfield$Land" "faceCount" "I" "Steamfield", .fieldLinkNest "Steamfield" 99 "Steamfield$Land" "wellCount" "I" "Steamfield", .fieldLinkNest "Steamfield" 115 "Steamfield$Land" "springCount" "I" "Steamfield", .fieldLinkNest "Steamfield" 227 "Steamfield$Land" "now" "I" "Steamfield", .methodLinkNest "Steamfield$Land" 37 ⟨"Steamfield$Water", "<init>", "()V"⟩ "Steamfield", .methodLinkNest "Steamfield$Land" 44 ⟨"Steamfield$Plant", "<init>", "()V"⟩ "Steamfield", .methodLinkNest "Steamfield$Land" 51 ⟨"Steamfield$Books", "<init>", "()V"⟩ "Steamfield", .methodLinkNest "Steamfield$Books" 9 ⟨"Steamfield$Water", "<init>", "()V"⟩ "Steamfield", .methodLinkNest "Steamfield$Land" 66 ⟨"Steamfield$Block", "<init>", "()V"⟩ "Steamfield", .methodLinkNest "Steamfield$Block" 9 ⟨"Steamfield$Water", "<init>", "()V"⟩ "Steamfield", .methodLinkNest "Steamfield$Land" 67 ⟨"Steamfield$Face", "<init>", "()V"⟩ "Steamfield", .methodLinkNest "Steamfield$Land" 68 ⟨"Steamfield$Well", "<init>", "()V"⟩ "Steamfield", .methodLinkNest "Steamfield$Land" 69 ⟨"Steamfield$Spring", "<init>", "()V"⟩ "Steamfield"]
theorem zw_nest_ok : zw_nest.all z_nest = true := by decide +kernel
/-- which fields are references -/
def zf : Nat → List Bool
  | 0 => [true, false, false]
  | 1 => [true, true, true, false, false]
  | 2 => [false, false, false, false]
  | 3 => [true, true, true, true, true, true, true, true, true, true, false, false, false, false, false]
  | 4 => [false, false, false, false, false, false]
  | 5 => [false, false, false, false, false, false, false]
  | 6 => [false, false, false, false]
  | 7 => [false, false, false, false, false, false, false, false, false]
  | 8 => [true, true]
  | _ => []
/-- the ids of a land: 0 itself, 1 to 4 its rows of blocks, faces, wells, springs, 5 pond, 6 plant, 7 books, 8 coins, 9 shocks, 10 load, 11 told, 12 spilled, 13 sprung, 20.. blocks, 30.. their waters, 40.. faces, 60.. wells, 70.. springs -/
def zk (i : Nat) : Nat :=
  if i = 0 then 3 else if i = 1 then 101 else if i = 2 then 102 else if i = 3 then 103 else if i = 4 then 104 else if i = 5 then 6 else if i = 6 then 4 else if i = 7 then 1 else if i = 8 then 100 else if i = 9 then 100 else if i < 14 then 6 else if i < 20 then 999 else if i < 28 then 0 else if i < 30 then 999 else if i < 38 then 6 else if i < 40 then 999 else if i < 52 then 2 else if i < 60 then 999 else if i < 66 then 7 else if i < 70 then 999 else if i < 73 then 5 else 999
def zr (i k : Nat) : Option Nat :=
  if i = 0 then (if k < 10 then some (k + 1) else none)
  else if i = 1 then (if k < 8 then some (20 + k) else none)
  else if i = 2 then (if k < 12 then some (40 + k) else none)
  else if i = 3 then (if k < 6 then some (60 + k) else none)
  else if i = 4 then (if k < 3 then some (70 + k) else none)
  else if i = 7 then (if k < 3 then some (11 + k) else none)
  else if 20 ≤ i ∧ i < 28 then (if k = 0 then some (10 + i) else none)
  else none
def zn (i : Nat) : Nat := if i = 1 then 8 else if i = 2 then 12 else if i = 3 then 6 else if i = 4 then 3 else if i = 8 then 2 else if i = 9 then 4 else 0
abbrev zd : zD := (zk, zr, zn)
theorem zk_0 : zk 0 = 3 := by decide
theorem zk_1 : zk 1 = 101 := by decide
theorem zk_2 : zk 2 = 102 := by decide
theorem zk_3 : zk 3 = 103 := by decide
theorem zk_4 : zk 4 = 104 := by decide
theorem zk_5 : zk 5 = 6 := by decide
theorem zk_6 : zk 6 = 4 := by decide
theorem zk_7 : zk 7 = 1 := by decide
theorem zk_8 : zk 8 = 100 := by decide
theorem zk_9 : zk 9 = 100 := by decide
theorem zk_10 : zk 10 = 6 := by decide
theorem zk_11 : zk 11 = 6 := by decide
theorem zk_12 : zk 12 = 6 := by decide
theorem zk_13 : zk 13 = 6 := by decide
theorem zk_b {n : Nat} (h : n < 8) : zk (20 + n) = 0 := by
  unfold zk
  repeat rw [if_neg (by omega)]
  rw [if_pos (by omega)]
theorem zk_w {n : Nat} (h : n < 8) : zk (30 + n) = 6 := by
  unfold zk
  repeat rw [if_neg (by omega)]
  rw [if_pos (by omega)]
theorem zk_f {n : Nat} (h : n < 12) : zk (40 + n) = 2 := by
  unfold zk
  repeat rw [if_neg (by omega)]
  rw [if_pos (by omega)]
theorem zk_v {n : Nat} (h : n < 6) : zk (60 + n) = 7 := by
  unfold zk
  repeat rw [if_neg (by omega)]
  rw [if_pos (by omega)]
theorem zk_s {n : Nat} (h : n < 3) : zk (70 + n) = 5 := by
  unfold zk
  repeat rw [if_neg (by omega)]
  rw [if_pos (by omega)]
theorem zr_b {n : Nat} (h : n < 8) : zr (20 + n) 0 = some (30 + n) := by
  unfold zr
  repeat rw [if_neg (by omega)]
  rw [if_pos (by omega), if_pos rfl]
  congr 1
  omega
theorem zr_0 {k : Nat} (h : k < 10) : zr 0 k = some (k + 1) := by
  unfold zr
  rw [if_pos rfl, if_pos h]
theorem zr_7 {k : Nat} (h : k < 3) : zr 7 k = some (11 + k) := by
  unfold zr
  repeat rw [if_neg (by omega)]
  rw [if_pos rfl, if_pos h]
theorem zr_1 {k : Nat} (h : k < 8) : zr 1 k = some (20 + k) := by
  unfold zr
  repeat rw [if_neg (by omega)]
  rw [if_pos rfl, if_pos h]
theorem zr_2 {k : Nat} (h : k < 12) : zr 2 k = some (40 + k) := by
  unfold zr
  repeat rw [if_neg (by omega)]
  rw [if_pos rfl, if_pos h]
theorem zr_3 {k : Nat} (h : k < 6) : zr 3 k = some (60 + k) := by
  unfold zr
  repeat rw [if_neg (by omega)]
  rw [if_pos rfl, if_pos h]
theorem zr_4 {k : Nat} (h : k < 3) : zr 4 k = some (70 + k) := by
  unfold zr
  repeat rw [if_neg (by omega)]
  rw [if_pos rfl, if_pos h]
/-- the array classes' numbers -/
abbrev zt (ca : Nat → ClassId) : List (ClassId × FieldType) := [(ca 100, .int), (ca 101, .object "Steamfield$Block"), (ca 102, .object "Steamfield$Face"), (ca 103, .object "Steamfield$Well"), (ca 104, .object "Steamfield$Spring")]
theorem zx {n N : Nat} {x : Int32} (hx : x = nI n) (h : n < N) (hN : N < 2 ^ 31) : vp_in x N := by
  subst hx
  exact nI_in h hN
theorem zx_n {n : Nat} {x : Int32} (hx : x = nI n) (h : n < 2 ^ 31) : x.toNatClampNeg = n := by
  subst hx
  exact nI_clamp h
theorem z_nz {x : Int32} (h : ¬ x ≤ 0) : ¬ x = 0 := fun e => h (by rw [e]; exact Int32.le_refl _)
theorem z_nzl {x : Int32} (h : ¬ x ≤ 0) : ¬ x.toInt64 = 0 := by
  intro e
  apply h
  have h1 : x.toInt64.toInt = x.toInt := Int32.toInt_toInt64 x
  rw [e] at h1
  rw [Int32.le_iff_toInt_le, ← h1]
  decide
/-- a loop's steps, from 0 on -/
def zit {α : Type} (f : Nat → α → α) : Nat → α → α
  | 0, a => a
  | n + 1, a => f n (zit f n a)
/-- places that no step writes, by kind -/
def zsk : Nat → Nat → Bool
  | 0, _ => true
  | 2, 0 => true
  | 2, 1 => true
  | 3, 10 => true
  | 3, 11 => true
  | 3, 12 => true
  | 3, 13 => true
  | 4, 0 => true
  | 4, 4 => true
  | 5, 0 => true
  | 5, 1 => true
  | 5, 2 => true
  | 7, 0 => true
  | 7, 1 => true
  | _, _ => false
/-- M' has what M has there -/
def z_Fx (M M' : zM) : Prop := ∀ i k, zsk (zk i) k = true → M' i k = M i k
theorem z_Fx.rf {M : zM} : z_Fx M M := fun _ _ _ => rfl
theorem z_Fx.tr {M M1 M2 : zM} (h : z_Fx M M1) (h2 : z_Fx M1 M2) : z_Fx M M2 := fun i k hk => (h2 i k hk).trans (h i k hk)
theorem z_Fx.u {M : zM} {i k c : Nat} {v : Int32} (hi : zk i = c) (hk : zsk c k = false) : z_Fx M (zu M i k v) := by
  intro j q hq
  have hn : ¬ (j = i ∧ q = k) := by
    rintro ⟨rfl, rfl⟩
    rw [hi, hk] at hq
    cases hq
  simp only [zu, if_neg hn]
theorem z_Fx.u2 {M M1 : zM} {i k c : Nat} {v : Int32} (hi : zk i = c) (hk : zsk c k = false) (h : z_Fx M M1) : z_Fx M (zu M1 i k v) := h.tr (z_Fx.u hi hk)
theorem z_Fx.it {M A B : zM} {c : Prop} [Decidable c] (h1 : z_Fx M A) (h2 : z_Fx M B) : z_Fx M (if c then A else B) := by
  by_cases h : c
  · rw [if_pos h]; exact h1
  · rw [if_neg h]; exact h2
/-- an index below N -/
def z_ix (x : Int32) (N : Nat) : Prop := ∃ n, n < N ∧ n < 2 ^ 31 ∧ x = nI n
theorem z_ix.lt {x : Int32} {N : Nat} (h : z_ix x N) : x.toNatClampNeg < N := by
  obtain ⟨n, h1, h2, h3⟩ := h
  rw [zx_n h3 h2]
  exact h1
theorem z_ix.eq {x : Int32} {N : Nat} (h : z_ix x N) : x = nI x.toNatClampNeg := by
  obtain ⟨n, h1, h2, h3⟩ := h
  rw [zx_n h3 h2]
  exact h3
theorem z_ix.in {x : Int32} {N : Nat} (h : z_ix x N) : vp_in x N := by
  obtain ⟨n, h1, h2, h3⟩ := h
  subst h3
  refine fun hh => ?_
  rcases hh with hh | hh
  · exact nI_pos h2 hh
  · rw [nI_clamp h2] at hh
    omega
theorem z_and3 (x : Int32) : z_ix (x &&& 3) 4 := by
  have h : (x.toBitVec &&& 3#32).toNat ≤ 3 := by
    rw [BitVec.toNat_and]
    exact Nat.and_le_right
  refine ⟨(x.toBitVec &&& 3#32).toNat, by omega, by omega, ?_⟩
  apply Int32.toBitVec_inj.mp
  show x.toBitVec &&& 3#32 = BitVec.ofNat 32 _
  rw [BitVec.ofNat_toNat, BitVec.setWidth_eq]
theorem z_ix1 {x : Int32} (h : z_ix x 2) : z_ix (1 - x) 2 := by
  obtain ⟨n, h1, h2, h3⟩ := h
  subst h3
  rcases (show n = 0 ∨ n = 1 by omega) with h | h <;> subst h
  · exact ⟨1, by decide, by decide, by decide⟩
  · exact ⟨0, by decide, by decide, by decide⟩
/-- counts and indices are in their bounds -/
def z_Ok (M : zM) : Prop := (z_ix (M 0 10) 9 ∧ z_ix (M 0 11) 13 ∧ z_ix (M 0 12) 7 ∧ z_ix (M 0 13) 4) ∧ (∀ f, f < 12 → z_ix (M (40 + f) 0) 8) ∧ (∀ f, f < 12 → z_ix (M (40 + f) 1) 8) ∧ (∀ v, v < 6 → z_ix (M (60 + v) 0) 8) ∧ (∀ v, v < 3 → z_ix (M (70 + v) 0) 8) ∧ (∀ b, b < 8 → z_ix (M (20 + b) 2) 2) ∧ (∀ v, v < 6 → M (60 + v) 1 = 0 ∨ M (60 + v) 1 = 1)
theorem z_Ok.one {M : zM} (h : z_Ok M) {f : Nat} (hf : f < 12) : z_ix (M (40 + f) 0) 8 := h.2.1 f hf
theorem z_Ok.other {M : zM} (h : z_Ok M) {f : Nat} (hf : f < 12) : z_ix (M (40 + f) 1) 8 := h.2.2.1 f hf
theorem z_Ok.wblock {M : zM} (h : z_Ok M) {f : Nat} (hf : f < 6) : z_ix (M (60 + f) 0) 8 := h.2.2.2.1 f hf
theorem z_Ok.sblock {M : zM} (h : z_Ok M) {f : Nat} (hf : f < 3) : z_ix (M (70 + f) 0) 8 := h.2.2.2.2.1 f hf
theorem z_Ok.owner {M : zM} (h : z_Ok M) {f : Nat} (hf : f < 8) : z_ix (M (20 + f) 2) 2 := h.2.2.2.2.2.1 f hf
theorem z_Ok.inj {M : zM} (h : z_Ok M) {f : Nat} (hf : f < 6) : M (60 + f) 1 = 0 ∨ M (60 + f) 1 = 1 := h.2.2.2.2.2.2 f hf
def zc10 (M : zM) : Nat := (M 0 10).toNatClampNeg
def zc11 (M : zM) : Nat := (M 0 11).toNatClampNeg
def zc12 (M : zM) : Nat := (M 0 12).toNatClampNeg
def zc13 (M : zM) : Nat := (M 0 13).toNatClampNeg
theorem z_Ok.c10 {M : zM} (h : z_Ok M) : M 0 10 = nI (zc10 M) := h.1.1.eq
theorem z_Ok.c11 {M : zM} (h : z_Ok M) : M 0 11 = nI (zc11 M) := h.1.2.1.eq
theorem z_Ok.c12 {M : zM} (h : z_Ok M) : M 0 12 = nI (zc12 M) := h.1.2.2.1.eq
theorem z_Ok.c13 {M : zM} (h : z_Ok M) : M 0 13 = nI (zc13 M) := h.1.2.2.2.eq
theorem z_Ok.n10 {M : zM} (h : z_Ok M) : zc10 M ≤ 8 := Nat.le_of_lt_succ h.1.1.lt
theorem z_Ok.n11 {M : zM} (h : z_Ok M) : zc11 M ≤ 12 := Nat.le_of_lt_succ h.1.2.1.lt
theorem z_Ok.n12 {M : zM} (h : z_Ok M) : zc12 M ≤ 6 := Nat.le_of_lt_succ h.1.2.2.1.lt
theorem z_Ok.n13 {M : zM} (h : z_Ok M) : zc13 M ≤ 3 := Nat.le_of_lt_succ h.1.2.2.2.lt
theorem z_Fx.c10 {M M' : zM} (h : z_Fx M M') : M' 0 10 = M 0 10 := h 0 10 rfl
theorem z_Fx.c11 {M M' : zM} (h : z_Fx M M') : M' 0 11 = M 0 11 := h 0 11 rfl
theorem z_Fx.c12 {M M' : zM} (h : z_Fx M M') : M' 0 12 = M 0 12 := h 0 12 rfl
theorem z_Fx.c13 {M M' : zM} (h : z_Fx M M') : M' 0 13 = M 0 13 := h 0 13 rfl
theorem z_Ok.fx {M M' : zM} (h : z_Ok M) (hf : z_Fx M M') : z_Ok M' := by
  obtain ⟨⟨a1, a2, a3, a4⟩, b1, b2, b3, b4, b5, b6⟩ := h
  refine ⟨⟨?_, ?_, ?_, ?_⟩, ?_, ?_, ?_, ?_, ?_, ?_⟩
  · rw [hf.c10]; exact a1
  · rw [hf.c11]; exact a2
  · rw [hf.c12]; exact a3
  · rw [hf.c13]; exact a4
  · intro f h; rw [hf (40 + f) 0 (by rw [zk_f h]; rfl)]; exact b1 f h
  · intro f h; rw [hf (40 + f) 1 (by rw [zk_f h]; rfl)]; exact b2 f h
  · intro f h; rw [hf (60 + f) 0 (by rw [zk_v h]; rfl)]; exact b3 f h
  · intro f h; rw [hf (70 + f) 0 (by rw [zk_s h]; rfl)]; exact b4 f h
  · intro f h; rw [hf (20 + f) 2 (by rw [zk_b h]; rfl)]; exact b5 f h
  · intro f h; rw [hf (60 + f) 1 (by rw [zk_v h]; rfl)]; exact b6 f h
/-- a loop's end and its body, by its counter -/
theorem z_ge {k N : Nat} {x y : Int32} (hy : y = nI N) (hx : x = nI k) (hk : k ≤ N) (hN : N < 2 ^ 31) (h : y ≤ x) : k = N := by
  subst hy hx
  rcases Nat.lt_or_ge k N with h1 | h1
  · exact absurd h (nI_ge h1 hN)
  · omega
theorem z_lt {k N : Nat} {x y : Int32} (hy : y = nI N) (hx : x = nI k) (hk : k ≤ N) (hN : N < 2 ^ 31) (h : ¬ y ≤ x) : k < N := by
  subst hy hx
  rcases Nat.lt_or_ge k N with h1 | h1
  · exact h1
  · exact absurd (nI_le h1 (by omega)) h
theorem z_nx {k : Nat} {x y : Int32} (hx : x = nI k) (hy : y = x + 1) : y = nI (k + 1) := by rw [hy, hx, nI_succ]
end
section
abbrev zW (dC : Nat → ClassId) (dI : Nat → Nat → Nat) (ca : Nat → ClassId) (ad : Nat → Nat) (M : zM) (H : Heap) : Prop := z_H (dC, dI) vwCl zf ca zd ad M H
def rX6_shareOf (M : zM) (i : Nat) (a0 : Int32) (a1 : Int32) : Int32 :=
  let x1 := M i 0
  let x3 := if x1 ≤ 0 then 0 else (let y3 := a1.toInt64; let y4 := a0.toInt64; let y5 := y3 * y4; let x6 := M i 0; let y7 := x6.toInt64; let y8 := y5 / y7; let x9 := y8.toInt32; x9)
  x3
set_option maxHeartbeats 4000000 in
set_option maxRecDepth 100000 in
theorem m_X6_shareOf (l : Launch) (dC : Nat → ClassId) (dI : Nat → Nat → Nat) (ca : Nat → ClassId) (ad : Nat → Nat) (hI : z_I zd ad) (M : zM) (i : Nat) (h_i : zk i = 6) (a0 : Int32) (a1 : Int32) : Met l yX6_shareOf wsX6_shareOf ({ frames := 0, cells := 0, slots := 0, locals := 0 }) (z_Pc (dC, dI) vwCl (zt ca) zw_nest [.ref (ad i), .int a0, .int a1] (fun H => zW dC dI ca ad M H)) (z_Qi (rX6_shareOf M i a0 a1) (fun H => zW dC dI ca ad M H) (z_A zd ad)) 0 0 (z_A zd ad) := by
  refine Met.ofW (cc := cX6_shareOf) (maxL := 3) (ret := (some .int)) (by decide) rfl ?_
  intro p e s m args below meth c s₁ B hml hv
  obtain ⟨rfl, hH, hK, hN⟩ := hv
  have hx := B.exec
  have hb := B.bytes
  have hr := B.returns
  have hts := atoms_spec (ws := wsX6_shareOf) B.pre
  have hown : s.vm.findClass RX6 = some m.cls := findClass_of_methodNamed B.named
  have hlocks := B.notSynchronized
  have hS : va_S (z_A zd ad) s.heap s.heap [] := va_S.rf
  have hH : z_H (dC, dI) vwCl zf ca zd ad M s.heap := hH
  have hinX6 : ∀ w ∈ u_ws RX6 TX6 4, w ∈ wsX6_shareOf := by decide +kernel
  have hl := lv_entry ([.ref (ad i), .int a0, .int a1]) (n := 3) (Nat.le_of_ble_eq_true rfl)
  rw [lg_entry_eq]
  generalize (lg_sl ([.ref (ad i), .int a0, .int a1]) ++ List.replicate (3 - (lg_sl ([.ref (ad i), .int a0, .int a1])).length) Slot.unset).toArray = ls at hl ⊢
  have hl : lv_has ls 3 [(0, .ref (ad i)), (1, .int a0), (2, .int a1)] := hl
  refine lv_aload_n hx hb dX6_shareOf_0 rfl (lv_at hl 0 rfl) ?_
  refine z_gi (D := (dC, dI)) (cl := vwCl) (C := RX6) (T := TX6) (N := 4) (ci := 6) (k := 0) hx hb hts hinX6 hown hK hH h_i (by decide) rfl (by decide) rfl (hts (.fieldLink RX6 7 "Steamfield$Water" "mass" "I") (by decide +kernel)) (fun _ h9 => h9) dX6_shareOf_1 ?_
  refine lv_topi (fun x1 ex1 => ?_)
  have J4 : ∀ x3 : Int32, x3 = (if x1 ≤ 0 then 0 else (let y3 := a1.toInt64; let y4 := a0.toInt64; let y5 := y3 * y4; let x6 := M i 0; let y7 := x6.toInt64; let y8 := y5 / y7; let x9 := y8.toInt32; x9)) → ∀ ls : Array Slot, lv_has ls 3 [(0, .ref (ad i)), (1, .int a0), (2, .int a1)] → W p l e (headSpec wsX6_shareOf ({ frames := 0, cells := 0, slots := 0, locals := 0 })).room s m ([.ref (ad i), .int a0, .int a1] : List Value).toArray below meth c s.heap [] 0 0 (MQ below (z_Qi (rX6_shareOf M i a0 a1) (fun H => zW dC dI ca ad M H) (z_A zd ad)) ([.ref (ad i), .int a0, .int a1] : List Value).toArray s 0 0 (z_A zd ad)) (F0 m 23 ls [.int x3]) := by
    intro x3 ex3 ls hl
    have hR : x3 = rX6_shareOf M i a0 a1 := by subst ex3; subst ex1; rfl
    exact W.iret (v := x3) hx hb hr (fun t ht hW => ⟨⟨x3, (), rfl, hR, z_to (B := fun H => zW dC dI ca ad M H) ht hH⟩, hS.F ht⟩) hS.2.2 dX6_shareOf_23
  refine lv_if_le (tgt := 22) hx hb dX6_shareOf_4 (by decide) (fun c2 => ?_) (fun c2 => ?_)
  · refine lv_iconst (v := 0) hx hb dX6_shareOf_22 (by decide) ?_
    exact J4 _ (by exact (if_pos c2).symm) ls (lv_sub hl [0, 1, 2] rfl)
  · refine lv_iload_n hx hb dX6_shareOf_7 rfl (lv_at hl 2 rfl) ?_
    refine lv_i2l hx hb dX6_shareOf_8 rfl ?_
    refine lv_topl (fun y3 ey3 => ?_)
    refine lv_iload_n hx hb dX6_shareOf_9 rfl (lv_at hl 1 rfl) ?_
    refine lv_i2l hx hb dX6_shareOf_10 rfl ?_
    refine lv_topl (fun y4 ey4 => ?_)
    refine lv_lmul hx hb dX6_shareOf_11 ?_
    refine lv_topl (fun y5 ey5 => ?_)
    refine lv_aload_n hx hb dX6_shareOf_12 rfl (lv_at hl 0 rfl) ?_
    refine z_gi (D := (dC, dI)) (cl := vwCl) (C := RX6) (T := TX6) (N := 4) (ci := 6) (k := 0) hx hb hts hinX6 hown hK hH h_i (by decide) rfl (by decide) rfl (hts (.fieldLink RX6 7 "Steamfield$Water" "mass" "I") (by decide +kernel)) (fun _ h9 => h9) dX6_shareOf_13 ?_
    refine lv_topi (fun x6 ex6 => ?_)
    refine lv_i2l hx hb dX6_shareOf_16 rfl ?_
    refine lv_topl (fun y7 ey7 => ?_)
    refine lv_ldiv hx hb dX6_shareOf_17 (by rw [ey7, ex6, ← ex1]; exact z_nzl c2) ?_
    refine lv_topl (fun y8 ey8 => ?_)
    refine lv_l2i hx hb dX6_shareOf_18 rfl ?_
    refine lv_topi (fun x9 ex9 => ?_)
    refine lv_goto (tgt := 23) hx hb dX6_shareOf_19 (by decide) ?_
    exact J4 _ (by subst ex9; subst ey8; subst ey7; subst ex6; subst ey5; subst ey4; subst ey3; exact (if_neg c2).symm) ls (lv_sub hl [0, 1, 2] rfl)

def fX6_add (M : zM) (i : Nat) (j : Nat) : zM :=
  let x1 := M i 0
  let x2 := M j 0
  let x3 := x1 + x2
  let M4 := zu M i 0 x3
  let x5 := M4 i 1
  let x6 := M4 j 1
  let x7 := x5 + x6
  let M8 := zu M4 i 1 x7
  let x9 := M8 i 2
  let x10 := M8 j 2
  let x11 := x9 + x10
  let M12 := zu M8 i 2 x11
  let x13 := M12 i 3
  let x14 := M12 j 3
  let x15 := x13 + x14
  let M16 := zu M12 i 3 x15
  M16
theorem fx_X6_add (M : zM) (i : Nat) (h_i : zk i = 6) (j : Nat) (h_j : zk j = 6) : z_Fx M (fX6_add M i j) := by
  unfold fX6_add
  dsimp only
  repeat first | exact z_Fx.rf | refine z_Fx.u2 h_i rfl ?_ | refine z_Fx.it ?_ ?_
set_option maxHeartbeats 4000000 in
set_option maxRecDepth 100000 in
theorem m_X6_add (l : Launch) (dC : Nat → ClassId) (dI : Nat → Nat → Nat) (ca : Nat → ClassId) (ad : Nat → Nat) (hI : z_I zd ad) (M : zM) (i : Nat) (h_i : zk i = 6) (j : Nat) (h_j : zk j = 6) : Met l yX6_add wsX6_add ({ frames := 0, cells := 0, slots := 0, locals := 0 }) (z_Pc (dC, dI) vwCl (zt ca) zw_nest [.ref (ad i), .ref (ad j)] (fun H => zW dC dI ca ad M H)) (z_Qv (fun H => zW dC dI ca ad (fX6_add M i j) H) (z_A zd ad)) 0 0 (z_A zd ad) := by
  refine Met.ofW (cc := cX6_add) (maxL := 2) (ret := none) (by decide) rfl ?_
  intro p e s m args below meth c s₁ B hml hv
  obtain ⟨rfl, hH, hK, hN⟩ := hv
  have hx := B.exec
  have hb := B.bytes
  have hr := B.returns
  have hts := atoms_spec (ws := wsX6_add) B.pre
  have hown : s.vm.findClass RX6 = some m.cls := findClass_of_methodNamed B.named
  have hlocks := B.notSynchronized
  have hS : va_S (z_A zd ad) s.heap s.heap [] := va_S.rf
  have hH : z_H (dC, dI) vwCl zf ca zd ad M s.heap := hH
  have hinX6 : ∀ w ∈ u_ws RX6 TX6 4, w ∈ wsX6_add := by decide +kernel
  have hl := lv_entry ([.ref (ad i), .ref (ad j)]) (n := 2) (Nat.le_of_ble_eq_true rfl)
  rw [lg_entry_eq]
  generalize (lg_sl ([.ref (ad i), .ref (ad j)]) ++ List.replicate (2 - (lg_sl ([.ref (ad i), .ref (ad j)])).length) Slot.unset).toArray = ls at hl ⊢
  have hl : lv_has ls 2 [(0, .ref (ad i)), (1, .ref (ad j))] := hl
  refine lv_aload_n hx hb dX6_add_0 rfl (lv_at hl 0 rfl) ?_
  refine lv_dup hx hb dX6_add_1 rfl ?_
  refine z_gi (D := (dC, dI)) (cl := vwCl) (C := RX6) (T := TX6) (N := 4) (ci := 6) (k := 0) hx hb hts hinX6 hown hK hH h_i (by decide) rfl (by decide) rfl (hts (.fieldLink RX6 7 "Steamfield$Water" "mass" "I") (by decide +kernel)) (fun _ h9 => h9) dX6_add_2 ?_
  refine lv_topi (fun x1 ex1 => ?_)
  refine lv_aload_n hx hb dX6_add_5 rfl (lv_at hl 1 rfl) ?_
  refine z_gi (D := (dC, dI)) (cl := vwCl) (C := RX6) (T := TX6) (N := 4) (ci := 6) (k := 0) hx hb hts hinX6 hown hK hH h_j (by decide) rfl (by decide) rfl (hts (.fieldLink RX6 7 "Steamfield$Water" "mass" "I") (by decide +kernel)) (fun _ h9 => h9) dX6_add_6 ?_
  refine lv_topi (fun x2 ex2 => ?_)
  refine lv_iadd hx hb dX6_add_9 ?_
  refine lv_topi (fun x3 ex3 => ?_)
  refine zp_i (D := (dC, dI)) (cl := vwCl) (C := RX6) (T := TX6) (N := 4) (ci := 6) (k := 0) (ty := .int) hx hb hts hinX6 tyX6 tyX6_ok nmX6 hown hK hH hI hS (fun _ h => h) h_i (by decide) rfl (by decide) rfl (hts (.fieldLink RX6 7 "Steamfield$Water" "mass" "I") (by decide +kernel)) (fun _ h9 => h9) rfl (by decide +kernel) rfl rfl dX6_add_10 (fun H locs hH oq hS => ?_)
  obtain ⟨M4, hM4⟩ : ∃ z : zM, z = zu M i 0 x3 := ⟨_, rfl⟩
  rw [← hM4] at hH
  refine lv_aload_n hx hb dX6_add_13 rfl (lv_at hl 0 rfl) ?_
  refine lv_dup hx hb dX6_add_14 rfl ?_
  refine z_gi (D := (dC, dI)) (cl := vwCl) (C := RX6) (T := TX6) (N := 4) (ci := 6) (k := 1) hx hb hts hinX6 hown hK hH h_i (by decide) rfl (by decide) rfl (hts (.fieldLink RX6 13 "Steamfield$Water" "heat" "I") (by decide +kernel)) (fun _ h9 => h9) dX6_add_15 ?_
  refine lv_topi (fun x5 ex5 => ?_)
  refine lv_aload_n hx hb dX6_add_18 rfl (lv_at hl 1 rfl) ?_
  refine z_gi (D := (dC, dI)) (cl := vwCl) (C := RX6) (T := TX6) (N := 4) (ci := 6) (k := 1) hx hb hts hinX6 hown hK hH h_j (by decide) rfl (by decide) rfl (hts (.fieldLink RX6 13 "Steamfield$Water" "heat" "I") (by decide +kernel)) (fun _ h9 => h9) dX6_add_19 ?_
  refine lv_topi (fun x6 ex6 => ?_)
  refine lv_iadd hx hb dX6_add_22 ?_
  refine lv_topi (fun x7 ex7 => ?_)
  refine zp_i (D := (dC, dI)) (cl := vwCl) (C := RX6) (T := TX6) (N := 4) (ci := 6) (k := 1) (ty := .int) hx hb hts hinX6 tyX6 tyX6_ok nmX6 hown hK hH hI hS (fun _ h => h) h_i (by decide) rfl (by decide) rfl (hts (.fieldLink RX6 13 "Steamfield$Water" "heat" "I") (by decide +kernel)) (fun _ h9 => h9) rfl (by decide +kernel) rfl rfl dX6_add_23 (fun H locs hH oq hS => ?_)
  obtain ⟨M8, hM8⟩ : ∃ z : zM, z = zu M4 i 1 x7 := ⟨_, rfl⟩
  rw [← hM8] at hH
  refine lv_aload_n hx hb dX6_add_26 rfl (lv_at hl 0 rfl) ?_
  refine lv_dup hx hb dX6_add_27 rfl ?_
  refine z_gi (D := (dC, dI)) (cl := vwCl) (C := RX6) (T := TX6) (N := 4) (ci := 6) (k := 2) hx hb hts hinX6 hown hK hH h_i (by decide) rfl (by decide) rfl (hts (.fieldLink RX6 16 "Steamfield$Water" "salt" "I") (by decide +kernel)) (fun _ h9 => h9) dX6_add_28 ?_
  refine lv_topi (fun x9 ex9 => ?_)
  refine lv_aload_n hx hb dX6_add_31 rfl (lv_at hl 1 rfl) ?_
  refine z_gi (D := (dC, dI)) (cl := vwCl) (C := RX6) (T := TX6) (N := 4) (ci := 6) (k := 2) hx hb hts hinX6 hown hK hH h_j (by decide) rfl (by decide) rfl (hts (.fieldLink RX6 16 "Steamfield$Water" "salt" "I") (by decide +kernel)) (fun _ h9 => h9) dX6_add_32 ?_
  refine lv_topi (fun x10 ex10 => ?_)
  refine lv_iadd hx hb dX6_add_35 ?_
  refine lv_topi (fun x11 ex11 => ?_)
  refine zp_i (D := (dC, dI)) (cl := vwCl) (C := RX6) (T := TX6) (N := 4) (ci := 6) (k := 2) (ty := .int) hx hb hts hinX6 tyX6 tyX6_ok nmX6 hown hK hH hI hS (fun _ h => h) h_i (by decide) rfl (by decide) rfl (hts (.fieldLink RX6 16 "Steamfield$Water" "salt" "I") (by decide +kernel)) (fun _ h9 => h9) rfl (by decide +kernel) rfl rfl dX6_add_36 (fun H locs hH oq hS => ?_)
  obtain ⟨M12, hM12⟩ : ∃ z : zM, z = zu M8 i 2 x11 := ⟨_, rfl⟩
  rw [← hM12] at hH
  refine lv_aload_n hx hb dX6_add_39 rfl (lv_at hl 0 rfl) ?_
  refine lv_dup hx hb dX6_add_40 rfl ?_
  refine z_gi (D := (dC, dI)) (cl := vwCl) (C := RX6) (T := TX6) (N := 4) (ci := 6) (k := 3) hx hb hts hinX6 hown hK hH h_i (by decide) rfl (by decide) rfl (hts (.fieldLink RX6 19 "Steamfield$Water" "tracer" "I") (by decide +kernel)) (fun _ h9 => h9) dX6_add_41 ?_
  refine lv_topi (fun x13 ex13 => ?_)
  refine lv_aload_n hx hb dX6_add_44 rfl (lv_at hl 1 rfl) ?_
  refine z_gi (D := (dC, dI)) (cl := vwCl) (C := RX6) (T := TX6) (N := 4) (ci := 6) (k := 3) hx hb hts hinX6 hown hK hH h_j (by decide) rfl (by decide) rfl (hts (.fieldLink RX6 19 "Steamfield$Water" "tracer" "I") (by decide +kernel)) (fun _ h9 => h9) dX6_add_45 ?_
  refine lv_topi (fun x14 ex14 => ?_)
  refine lv_iadd hx hb dX6_add_48 ?_
  refine lv_topi (fun x15 ex15 => ?_)
  refine zp_i (D := (dC, dI)) (cl := vwCl) (C := RX6) (T := TX6) (N := 4) (ci := 6) (k := 3) (ty := .int) hx hb hts hinX6 tyX6 tyX6_ok nmX6 hown hK hH hI hS (fun _ h => h) h_i (by decide) rfl (by decide) rfl (hts (.fieldLink RX6 19 "Steamfield$Water" "tracer" "I") (by decide +kernel)) (fun _ h9 => h9) rfl (by decide +kernel) rfl rfl dX6_add_49 (fun H locs hH oq hS => ?_)
  obtain ⟨M16, hM16⟩ : ∃ z : zM, z = zu M12 i 3 x15 := ⟨_, rfl⟩
  rw [← hM16] at hH
  have hF : zW dC dI ca ad (fX6_add M i j) H := by
    have e9 : M16 = fX6_add M i j := by subst hM16; subst ex15; subst ex14; subst ex13; subst hM12; subst ex11; subst ex10; subst ex9; subst hM8; subst ex7; subst ex6; subst ex5; subst hM4; subst ex3; subst ex2; subst ex1; rfl
    rw [← e9]; exact hH
  exact W.vret hx hb hr (fun t ht hW => ⟨⟨(), rfl, trivial, z_to (B := fun H => zW dC dI ca ad (fX6_add M i j) H) ht hF⟩, hS.F ht⟩) hS.2.2 dX6_add_52

def fX6_remove (M : zM) (i : Nat) (j : Nat) : zM :=
  let x1 := M i 0
  let x2 := M j 0
  let x3 := x1 - x2
  let M4 := zu M i 0 x3
  let x5 := M4 i 1
  let x6 := M4 j 1
  let x7 := x5 - x6
  let M8 := zu M4 i 1 x7
  let x9 := M8 i 2
  let x10 := M8 j 2
  let x11 := x9 - x10
  let M12 := zu M8 i 2 x11
  let x13 := M12 i 3
  let x14 := M12 j 3
  let x15 := x13 - x14
  let M16 := zu M12 i 3 x15
  M16
theorem fx_X6_remove (M : zM) (i : Nat) (h_i : zk i = 6) (j : Nat) (h_j : zk j = 6) : z_Fx M (fX6_remove M i j) := by
  unfold fX6_remove
  dsimp only
  repeat first | exact z_Fx.rf | refine z_Fx.u2 h_i rfl ?_ | refine z_Fx.it ?_ ?_
set_option maxHeartbeats 4000000 in
set_option maxRecDepth 100000 in
theorem m_X6_remove (l : Launch) (dC : Nat → ClassId) (dI : Nat → Nat → Nat) (ca : Nat → ClassId) (ad : Nat → Nat) (hI : z_I zd ad) (M : zM) (i : Nat) (h_i : zk i = 6) (j : Nat) (h_j : zk j = 6) : Met l yX6_remove wsX6_remove ({ frames := 0, cells := 0, slots := 0, locals := 0 }) (z_Pc (dC, dI) vwCl (zt ca) zw_nest [.ref (ad i), .ref (ad j)] (fun H => zW dC dI ca ad M H)) (z_Qv (fun H => zW dC dI ca ad (fX6_remove M i j) H) (z_A zd ad)) 0 0 (z_A zd ad) := by
  refine Met.ofW (cc := cX6_remove) (maxL := 2) (ret := none) (by decide) rfl ?_
  intro p e s m args below meth c s₁ B hml hv
  obtain ⟨rfl, hH, hK, hN⟩ := hv
  have hx := B.exec
  have hb := B.bytes
  have hr := B.returns
  have hts := atoms_spec (ws := wsX6_remove) B.pre
  have hown : s.vm.findClass RX6 = some m.cls := findClass_of_methodNamed B.named
  have hlocks := B.notSynchronized
  have hS : va_S (z_A zd ad) s.heap s.heap [] := va_S.rf
  have hH : z_H (dC, dI) vwCl zf ca zd ad M s.heap := hH
  have hinX6 : ∀ w ∈ u_ws RX6 TX6 4, w ∈ wsX6_remove := by decide +kernel
  have hl := lv_entry ([.ref (ad i), .ref (ad j)]) (n := 2) (Nat.le_of_ble_eq_true rfl)
  rw [lg_entry_eq]
  generalize (lg_sl ([.ref (ad i), .ref (ad j)]) ++ List.replicate (2 - (lg_sl ([.ref (ad i), .ref (ad j)])).length) Slot.unset).toArray = ls at hl ⊢
  have hl : lv_has ls 2 [(0, .ref (ad i)), (1, .ref (ad j))] := hl
  refine lv_aload_n hx hb dX6_remove_0 rfl (lv_at hl 0 rfl) ?_
  refine lv_dup hx hb dX6_remove_1 rfl ?_
  refine z_gi (D := (dC, dI)) (cl := vwCl) (C := RX6) (T := TX6) (N := 4) (ci := 6) (k := 0) hx hb hts hinX6 hown hK hH h_i (by decide) rfl (by decide) rfl (hts (.fieldLink RX6 7 "Steamfield$Water" "mass" "I") (by decide +kernel)) (fun _ h9 => h9) dX6_remove_2 ?_
  refine lv_topi (fun x1 ex1 => ?_)
  refine lv_aload_n hx hb dX6_remove_5 rfl (lv_at hl 1 rfl) ?_
  refine z_gi (D := (dC, dI)) (cl := vwCl) (C := RX6) (T := TX6) (N := 4) (ci := 6) (k := 0) hx hb hts hinX6 hown hK hH h_j (by decide) rfl (by decide) rfl (hts (.fieldLink RX6 7 "Steamfield$Water" "mass" "I") (by decide +kernel)) (fun _ h9 => h9) dX6_remove_6 ?_
  refine lv_topi (fun x2 ex2 => ?_)
  refine lv_isub hx hb dX6_remove_9 ?_
  refine lv_topi (fun x3 ex3 => ?_)
  refine zp_i (D := (dC, dI)) (cl := vwCl) (C := RX6) (T := TX6) (N := 4) (ci := 6) (k := 0) (ty := .int) hx hb hts hinX6 tyX6 tyX6_ok nmX6 hown hK hH hI hS (fun _ h => h) h_i (by decide) rfl (by decide) rfl (hts (.fieldLink RX6 7 "Steamfield$Water" "mass" "I") (by decide +kernel)) (fun _ h9 => h9) rfl (by decide +kernel) rfl rfl dX6_remove_10 (fun H locs hH oq hS => ?_)
  obtain ⟨M4, hM4⟩ : ∃ z : zM, z = zu M i 0 x3 := ⟨_, rfl⟩
  rw [← hM4] at hH
  refine lv_aload_n hx hb dX6_remove_13 rfl (lv_at hl 0 rfl) ?_
  refine lv_dup hx hb dX6_remove_14 rfl ?_
  refine z_gi (D := (dC, dI)) (cl := vwCl) (C := RX6) (T := TX6) (N := 4) (ci := 6) (k := 1) hx hb hts hinX6 hown hK hH h_i (by decide) rfl (by decide) rfl (hts (.fieldLink RX6 13 "Steamfield$Water" "heat" "I") (by decide +kernel)) (fun _ h9 => h9) dX6_remove_15 ?_
  refine lv_topi (fun x5 ex5 => ?_)
  refine lv_aload_n hx hb dX6_remove_18 rfl (lv_at hl 1 rfl) ?_
  refine z_gi (D := (dC, dI)) (cl := vwCl) (C := RX6) (T := TX6) (N := 4) (ci := 6) (k := 1) hx hb hts hinX6 hown hK hH h_j (by decide) rfl (by decide) rfl (hts (.fieldLink RX6 13 "Steamfield$Water" "heat" "I") (by decide +kernel)) (fun _ h9 => h9) dX6_remove_19 ?_
  refine lv_topi (fun x6 ex6 => ?_)
  refine lv_isub hx hb dX6_remove_22 ?_
  refine lv_topi (fun x7 ex7 => ?_)
  refine zp_i (D := (dC, dI)) (cl := vwCl) (C := RX6) (T := TX6) (N := 4) (ci := 6) (k := 1) (ty := .int) hx hb hts hinX6 tyX6 tyX6_ok nmX6 hown hK hH hI hS (fun _ h => h) h_i (by decide) rfl (by decide) rfl (hts (.fieldLink RX6 13 "Steamfield$Water" "heat" "I") (by decide +kernel)) (fun _ h9 => h9) rfl (by decide +kernel) rfl rfl dX6_remove_23 (fun H locs hH oq hS => ?_)
  obtain ⟨M8, hM8⟩ : ∃ z : zM, z = zu M4 i 1 x7 := ⟨_, rfl⟩
  rw [← hM8] at hH
  refine lv_aload_n hx hb dX6_remove_26 rfl (lv_at hl 0 rfl) ?_
  refine lv_dup hx hb dX6_remove_27 rfl ?_
  refine z_gi (D := (dC, dI)) (cl := vwCl) (C := RX6) (T := TX6) (N := 4) (ci := 6) (k := 2) hx hb hts hinX6 hown hK hH h_i (by decide) rfl (by decide) rfl (hts (.fieldLink RX6 16 "Steamfield$Water" "salt" "I") (by decide +kernel)) (fun _ h9 => h9) dX6_remove_28 ?_
  refine lv_topi (fun x9 ex9 => ?_)
  refine lv_aload_n hx hb dX6_remove_31 rfl (lv_at hl 1 rfl) ?_
  refine z_gi (D := (dC, dI)) (cl := vwCl) (C := RX6) (T := TX6) (N := 4) (ci := 6) (k := 2) hx hb hts hinX6 hown hK hH h_j (by decide) rfl (by decide) rfl (hts (.fieldLink RX6 16 "Steamfield$Water" "salt" "I") (by decide +kernel)) (fun _ h9 => h9) dX6_remove_32 ?_
  refine lv_topi (fun x10 ex10 => ?_)
  refine lv_isub hx hb dX6_remove_35 ?_
  refine lv_topi (fun x11 ex11 => ?_)
  refine zp_i (D := (dC, dI)) (cl := vwCl) (C := RX6) (T := TX6) (N := 4) (ci := 6) (k := 2) (ty := .int) hx hb hts hinX6 tyX6 tyX6_ok nmX6 hown hK hH hI hS (fun _ h => h) h_i (by decide) rfl (by decide) rfl (hts (.fieldLink RX6 16 "Steamfield$Water" "salt" "I") (by decide +kernel)) (fun _ h9 => h9) rfl (by decide +kernel) rfl rfl dX6_remove_36 (fun H locs hH oq hS => ?_)
  obtain ⟨M12, hM12⟩ : ∃ z : zM, z = zu M8 i 2 x11 := ⟨_, rfl⟩
  rw [← hM12] at hH
  refine lv_aload_n hx hb dX6_remove_39 rfl (lv_at hl 0 rfl) ?_
  refine lv_dup hx hb dX6_remove_40 rfl ?_
  refine z_gi (D := (dC, dI)) (cl := vwCl) (C := RX6) (T := TX6) (N := 4) (ci := 6) (k := 3) hx hb hts hinX6 hown hK hH h_i (by decide) rfl (by decide) rfl (hts (.fieldLink RX6 19 "Steamfield$Water" "tracer" "I") (by decide +kernel)) (fun _ h9 => h9) dX6_remove_41 ?_
  refine lv_topi (fun x13 ex13 => ?_)
  refine lv_aload_n hx hb dX6_remove_44 rfl (lv_at hl 1 rfl) ?_
  refine z_gi (D := (dC, dI)) (cl := vwCl) (C := RX6) (T := TX6) (N := 4) (ci := 6) (k := 3) hx hb hts hinX6 hown hK hH h_j (by decide) rfl (by decide) rfl (hts (.fieldLink RX6 19 "Steamfield$Water" "tracer" "I") (by decide +kernel)) (fun _ h9 => h9) dX6_remove_45 ?_
  refine lv_topi (fun x14 ex14 => ?_)
  refine lv_isub hx hb dX6_remove_48 ?_
  refine lv_topi (fun x15 ex15 => ?_)
  refine zp_i (D := (dC, dI)) (cl := vwCl) (C := RX6) (T := TX6) (N := 4) (ci := 6) (k := 3) (ty := .int) hx hb hts hinX6 tyX6 tyX6_ok nmX6 hown hK hH hI hS (fun _ h => h) h_i (by decide) rfl (by decide) rfl (hts (.fieldLink RX6 19 "Steamfield$Water" "tracer" "I") (by decide +kernel)) (fun _ h9 => h9) rfl (by decide +kernel) rfl rfl dX6_remove_49 (fun H locs hH oq hS => ?_)
  obtain ⟨M16, hM16⟩ : ∃ z : zM, z = zu M12 i 3 x15 := ⟨_, rfl⟩
  rw [← hM16] at hH
  have hF : zW dC dI ca ad (fX6_remove M i j) H := by
    have e9 : M16 = fX6_remove M i j := by subst hM16; subst ex15; subst ex14; subst ex13; subst hM12; subst ex11; subst ex10; subst ex9; subst hM8; subst ex7; subst ex6; subst ex5; subst hM4; subst ex3; subst ex2; subst ex1; rfl
    rw [← e9]; exact hH
  exact W.vret hx hb hr (fun t ht hW => ⟨⟨(), rfl, trivial, z_to (B := fun H => zW dC dI ca ad (fX6_remove M i j) H) ht hF⟩, hS.F ht⟩) hS.2.2 dX6_remove_52

def rX0_pressure (M : zM) (b : Nat) : Int32 :=
  let x1 := M (20 + b) 1
  let x3 := if x1 ≤ 0 then 0 else (let x3 := M (30 + b) 0; let x4 := 10 * x3; let x5 := M (20 + b) 1; let x6 := x4 / x5; x6)
  x3
set_option maxHeartbeats 4000000 in
set_option maxRecDepth 100000 in
theorem m_X0_pressure (l : Launch) (dC : Nat → ClassId) (dI : Nat → Nat → Nat) (ca : Nat → ClassId) (ad : Nat → Nat) (hI : z_I zd ad) (M : zM) (b : Nat) (h_b : b < 8) : Met l yX0_pressure wsX0_pressure ({ frames := 0, cells := 0, slots := 0, locals := 0 }) (z_Pc (dC, dI) vwCl (zt ca) zw_nest [.ref (ad (20 + b))] (fun H => zW dC dI ca ad M H)) (z_Qi (rX0_pressure M b) (fun H => zW dC dI ca ad M H) (z_A zd ad)) 0 0 (z_A zd ad) := by
  refine Met.ofW (cc := cX0_pressure) (maxL := 1) (ret := (some .int)) (by decide) rfl ?_
  intro p e s m args below meth c s₁ B hml hv
  obtain ⟨rfl, hH, hK, hN⟩ := hv
  have hx := B.exec
  have hb := B.bytes
  have hr := B.returns
  have hts := atoms_spec (ws := wsX0_pressure) B.pre
  have hown : s.vm.findClass RX0 = some m.cls := findClass_of_methodNamed B.named
  have hlocks := B.notSynchronized
  have hS : va_S (z_A zd ad) s.heap s.heap [] := va_S.rf
  have hH : z_H (dC, dI) vwCl zf ca zd ad M s.heap := hH
  have hinX0 : ∀ w ∈ u_ws RX0 TX0 3, w ∈ wsX0_pressure := by decide +kernel
  have hinX6 : ∀ w ∈ u_ws RX6 TX6 4, w ∈ wsX0_pressure := by decide +kernel
  have hl := lv_entry ([.ref (ad (20 + b))]) (n := 1) (Nat.le_of_ble_eq_true rfl)
  rw [lg_entry_eq]
  generalize (lg_sl ([.ref (ad (20 + b))]) ++ List.replicate (1 - (lg_sl ([.ref (ad (20 + b))])).length) Slot.unset).toArray = ls at hl ⊢
  have hl : lv_has ls 1 [(0, .ref (ad (20 + b)))] := hl
  refine lv_aload_n hx hb dX0_pressure_0 rfl (lv_at hl 0 rfl) ?_
  refine z_gi (D := (dC, dI)) (cl := vwCl) (C := RX0) (T := TX0) (N := 3) (ci := 0) (k := 1) hx hb hts hinX0 hown hK hH (zk_b h_b) (by decide) rfl (by decide) rfl (hts (.fieldLink RX0 20 "Steamfield$Block" "volume" "I") (by decide +kernel)) (fun _ h9 => h9) dX0_pressure_1 ?_
  refine lv_topi (fun x1 ex1 => ?_)
  have J4 : ∀ x3 : Int32, x3 = (if x1 ≤ 0 then 0 else (let x3 := M (30 + b) 0; let x4 := 10 * x3; let x5 := M (20 + b) 1; let x6 := x4 / x5; x6)) → ∀ ls : Array Slot, lv_has ls 1 [(0, .ref (ad (20 + b)))] → W p l e (headSpec wsX0_pressure ({ frames := 0, cells := 0, slots := 0, locals := 0 })).room s m ([.ref (ad (20 + b))] : List Value).toArray below meth c s.heap [] 0 0 (MQ below (z_Qi (rX0_pressure M b) (fun H => zW dC dI ca ad M H) (z_A zd ad)) ([.ref (ad (20 + b))] : List Value).toArray s 0 0 (z_A zd ad)) (F0 m 26 ls [.int x3]) := by
    intro x3 ex3 ls hl
    have hR : x3 = rX0_pressure M b := by subst ex3; subst ex1; rfl
    exact W.iret (v := x3) hx hb hr (fun t ht hW => ⟨⟨x3, (), rfl, hR, z_to (B := fun H => zW dC dI ca ad M H) ht hH⟩, hS.F ht⟩) hS.2.2 dX0_pressure_26
  refine lv_if_le (tgt := 25) hx hb dX0_pressure_4 (by decide) (fun c2 => ?_) (fun c2 => ?_)
  · refine lv_iconst (v := 0) hx hb dX0_pressure_25 (by decide) ?_
    exact J4 _ (by exact (if_pos c2).symm) ls (lv_sub hl [0] rfl)
  · refine lv_bipush (v := 10) hx hb dX0_pressure_7 (by decide) ?_
    refine lv_aload_n hx hb dX0_pressure_9 rfl (lv_at hl 0 rfl) ?_
    refine z_gr (D := (dC, dI)) (cl := vwCl) (C := RX0) (T := TX0) (N := 3) (ci := 0) (k := 0) hx hb hts hinX0 hown hK hH (zk_b h_b) (by decide) rfl (by decide) rfl (zr_b h_b) (hts (.fieldLink RX0 10 "Steamfield$Block" "water" "LSteamfield$Water;") (by decide +kernel)) (fun _ h9 => h9) dX0_pressure_10 ?_
    refine z_giN (D := (dC, dI)) (cl := vwCl) (C := RX6) (T := TX6) (N := 4) (ci := 6) (k := 0) hx hb hts hinX6 hown hK hH (zk_w h_b) (by decide) rfl (by decide) rfl (hN (.fieldLinkNest RX0 27 "Steamfield$Water" "mass" "I" "Steamfield") (by decide +kernel)) (fun _ h9 => h9) dX0_pressure_13 ?_
    refine lv_topi (fun x3 ex3 => ?_)
    refine lv_imul hx hb dX0_pressure_16 ?_
    refine lv_topi (fun x4 ex4 => ?_)
    refine lv_aload_n hx hb dX0_pressure_17 rfl (lv_at hl 0 rfl) ?_
    refine z_gi (D := (dC, dI)) (cl := vwCl) (C := RX0) (T := TX0) (N := 3) (ci := 0) (k := 1) hx hb hts hinX0 hown hK hH (zk_b h_b) (by decide) rfl (by decide) rfl (hts (.fieldLink RX0 20 "Steamfield$Block" "volume" "I") (by decide +kernel)) (fun _ h9 => h9) dX0_pressure_18 ?_
    refine lv_topi (fun x5 ex5 => ?_)
    refine lv_idiv hx hb dX0_pressure_21 (by rw [ex5, ← ex1]; exact z_nz c2) ?_
    refine lv_topi (fun x6 ex6 => ?_)
    refine lv_goto (tgt := 26) hx hb dX0_pressure_22 (by decide) ?_
    exact J4 _ (by subst ex6; subst ex5; subst ex4; subst ex3; exact (if_neg c2).symm) ls (lv_sub hl [0] rfl)

def rX0_warmth (M : zM) (b : Nat) : Int32 :=
  let x1 := M (20 + b) 1
  let x2 := M (30 + b) 0
  let x3 := x1 + x2
  let x5 := if x3 ≤ 0 then 0 else (let x5 := M (30 + b) 1; let x6 := x5 / x3; x6)
  x5
set_option maxHeartbeats 4000000 in
set_option maxRecDepth 100000 in
theorem m_X0_warmth (l : Launch) (dC : Nat → ClassId) (dI : Nat → Nat → Nat) (ca : Nat → ClassId) (ad : Nat → Nat) (hI : z_I zd ad) (M : zM) (b : Nat) (h_b : b < 8) : Met l yX0_warmth wsX0_warmth ({ frames := 0, cells := 0, slots := 0, locals := 0 }) (z_Pc (dC, dI) vwCl (zt ca) zw_nest [.ref (ad (20 + b))] (fun H => zW dC dI ca ad M H)) (z_Qi (rX0_warmth M b) (fun H => zW dC dI ca ad M H) (z_A zd ad)) 0 0 (z_A zd ad) := by
  refine Met.ofW (cc := cX0_warmth) (maxL := 2) (ret := (some .int)) (by decide) rfl ?_
  intro p e s m args below meth c s₁ B hml hv
  obtain ⟨rfl, hH, hK, hN⟩ := hv
  have hx := B.exec
  have hb := B.bytes
  have hr := B.returns
  have hts := atoms_spec (ws := wsX0_warmth) B.pre
  have hown : s.vm.findClass RX0 = some m.cls := findClass_of_methodNamed B.named
  have hlocks := B.notSynchronized
  have hS : va_S (z_A zd ad) s.heap s.heap [] := va_S.rf
  have hH : z_H (dC, dI) vwCl zf ca zd ad M s.heap := hH
  have hinX0 : ∀ w ∈ u_ws RX0 TX0 3, w ∈ wsX0_warmth := by decide +kernel
  have hinX6 : ∀ w ∈ u_ws RX6 TX6 4, w ∈ wsX0_warmth := by decide +kernel
  have hl := lv_entry ([.ref (ad (20 + b))]) (n := 2) (Nat.le_of_ble_eq_true rfl)
  rw [lg_entry_eq]
  generalize (lg_sl ([.ref (ad (20 + b))]) ++ List.replicate (2 - (lg_sl ([.ref (ad (20 + b))])).length) Slot.unset).toArray = ls at hl ⊢
  have hl : lv_has ls 2 [(0, .ref (ad (20 + b)))] := hl
  refine lv_aload_n hx hb dX0_warmth_0 rfl (lv_at hl 0 rfl) ?_
  refine z_gi (D := (dC, dI)) (cl := vwCl) (C := RX0) (T := TX0) (N := 3) (ci := 0) (k := 1) hx hb hts hinX0 hown hK hH (zk_b h_b) (by decide) rfl (by decide) rfl (hts (.fieldLink RX0 20 "Steamfield$Block" "volume" "I") (by decide +kernel)) (fun _ h9 => h9) dX0_warmth_1 ?_
  refine lv_topi (fun x1 ex1 => ?_)
  refine lv_aload_n hx hb dX0_warmth_4 rfl (lv_at hl 0 rfl) ?_
  refine z_gr (D := (dC, dI)) (cl := vwCl) (C := RX0) (T := TX0) (N := 3) (ci := 0) (k := 0) hx hb hts hinX0 hown hK hH (zk_b h_b) (by decide) rfl (by decide) rfl (zr_b h_b) (hts (.fieldLink RX0 10 "Steamfield$Block" "water" "LSteamfield$Water;") (by decide +kernel)) (fun _ h9 => h9) dX0_warmth_5 ?_
  refine z_giN (D := (dC, dI)) (cl := vwCl) (C := RX6) (T := TX6) (N := 4) (ci := 6) (k := 0) hx hb hts hinX6 hown hK hH (zk_w h_b) (by decide) rfl (by decide) rfl (hN (.fieldLinkNest RX0 27 "Steamfield$Water" "mass" "I" "Steamfield") (by decide +kernel)) (fun _ h9 => h9) dX0_warmth_8 ?_
  refine lv_topi (fun x2 ex2 => ?_)
  refine lv_iadd hx hb dX0_warmth_11 ?_
  refine lv_topi (fun x3 ex3 => ?_)
  refine lv_istore_n (lv' := [(1, .int x3), (0, .ref (ad (20 + b)))]) hx hb dX0_warmth_12 rfl hl (by decide) rfl (fun ls hl => ?_)
  refine lv_iload_n hx hb dX0_warmth_13 rfl (lv_at hl 0 rfl) ?_
  have J6 : ∀ x5 : Int32, x5 = (if x3 ≤ 0 then 0 else (let x5 := M (30 + b) 1; let x6 := x5 / x3; x6)) → ∀ ls : Array Slot, lv_has ls 2 [(0, .ref (ad (20 + b))), (1, .int x3)] → W p l e (headSpec wsX0_warmth ({ frames := 0, cells := 0, slots := 0, locals := 0 })).room s m ([.ref (ad (20 + b))] : List Value).toArray below meth c s.heap [] 0 0 (MQ below (z_Qi (rX0_warmth M b) (fun H => zW dC dI ca ad M H) (z_A zd ad)) ([.ref (ad (20 + b))] : List Value).toArray s 0 0 (z_A zd ad)) (F0 m 30 ls [.int x5]) := by
    intro x5 ex5 ls hl
    have hR : x5 = rX0_warmth M b := by subst ex5; subst ex3; subst ex2; subst ex1; rfl
    exact W.iret (v := x5) hx hb hr (fun t ht hW => ⟨⟨x5, (), rfl, hR, z_to (B := fun H => zW dC dI ca ad M H) ht hH⟩, hS.F ht⟩) hS.2.2 dX0_warmth_30
  refine lv_if_le (tgt := 29) hx hb dX0_warmth_14 (by decide) (fun c4 => ?_) (fun c4 => ?_)
  · refine lv_iconst (v := 0) hx hb dX0_warmth_29 (by decide) ?_
    exact J6 _ (by exact (if_pos c4).symm) ls (lv_sub hl [1, 0] rfl)
  · refine lv_aload_n hx hb dX0_warmth_17 rfl (lv_at hl 1 rfl) ?_
    refine z_gr (D := (dC, dI)) (cl := vwCl) (C := RX0) (T := TX0) (N := 3) (ci := 0) (k := 0) hx hb hts hinX0 hown hK hH (zk_b h_b) (by decide) rfl (by decide) rfl (zr_b h_b) (hts (.fieldLink RX0 10 "Steamfield$Block" "water" "LSteamfield$Water;") (by decide +kernel)) (fun _ h9 => h9) dX0_warmth_18 ?_
    refine z_giN (D := (dC, dI)) (cl := vwCl) (C := RX6) (T := TX6) (N := 4) (ci := 6) (k := 1) hx hb hts hinX6 hown hK hH (zk_w h_b) (by decide) rfl (by decide) rfl (hN (.fieldLinkNest RX0 30 "Steamfield$Water" "heat" "I" "Steamfield") (by decide +kernel)) (fun _ h9 => h9) dX0_warmth_21 ?_
    refine lv_topi (fun x5 ex5 => ?_)
    refine lv_iload_n hx hb dX0_warmth_24 rfl (lv_at hl 0 rfl) ?_
    refine lv_idiv hx hb dX0_warmth_25 (z_nz c4) ?_
    refine lv_topi (fun x6 ex6 => ?_)
    refine lv_goto (tgt := 30) hx hb dX0_warmth_26 (by decide) ?_
    exact J6 _ (by subst ex6; subst ex5; exact (if_neg c4).symm) ls (lv_sub hl [1, 0] rfl)

def fX0_take (M : zM) (b : Nat) (a0 : Int32) (j : Nat) : zM :=
  let x1 := M (30 + b) 0
  let x2 := x1 / 4
  let x3 := if x2 < a0 then x2 else a0
  let M4 := zu M j 0 x3
  let x5 := rX0_warmth M4 b
  let x6 := x3 * x5
  let M7 := zu M4 j 1 x6
  let x8 := M7 (30 + b) 2
  let x9 := rX6_shareOf M7 (30 + b) x8 x3
  let M10 := zu M7 j 2 x9
  let x11 := M10 (30 + b) 3
  let x12 := rX6_shareOf M10 (30 + b) x11 x3
  let M13 := zu M10 j 3 x12
  let M14 := fX6_remove M13 (30 + b) j
  M14
theorem fx_X0_take (M : zM) (b : Nat) (h_b : b < 8) (a0 : Int32) (j : Nat) (h_j : zk j = 6) : z_Fx M (fX0_take M b a0 j) := by
  unfold fX0_take
  dsimp only
  repeat first | exact z_Fx.rf | refine z_Fx.u2 h_j rfl ?_ | refine z_Fx.tr ?_ (fx_X6_remove _ _ (zk_w h_b) _ h_j) | refine z_Fx.it ?_ ?_
set_option maxHeartbeats 4000000 in
set_option maxRecDepth 100000 in
theorem m_X0_take (l : Launch) (dC : Nat → ClassId) (dI : Nat → Nat → Nat) (ca : Nat → ClassId) (ad : Nat → Nat) (hI : z_I zd ad) (M : zM) (b : Nat) (h_b : b < 8) (a0 : Int32) (j : Nat) (h_j : zk j = 6) : Met l yX0_take wsX0_take ({ frames := 1, cells := 0, slots := 0, locals := 22 }) (z_Pc (dC, dI) vwCl (zt ca) zw_nest [.ref (ad (20 + b)), .int a0, .ref (ad j)] (fun H => zW dC dI ca ad M H)) (z_Qv (fun H => zW dC dI ca ad (fX0_take M b a0 j) H) (z_A zd ad)) 0 0 (z_A zd ad) := by
  refine Met.ofW (cc := cX0_take) (maxL := 4) (ret := none) (by decide) rfl ?_
  intro p e s m args below meth c s₁ B hml hv
  obtain ⟨rfl, hH, hK, hN⟩ := hv
  have hx := B.exec
  have hb := B.bytes
  have hr := B.returns
  have hts := atoms_spec (ws := wsX0_take) B.pre
  have hown : s.vm.findClass RX0 = some m.cls := findClass_of_methodNamed B.named
  have hlocks := B.notSynchronized
  have hS : va_S (z_A zd ad) s.heap s.heap [] := va_S.rf
  have hH : z_H (dC, dI) vwCl zf ca zd ad M s.heap := hH
  have hinX0 : ∀ w ∈ u_ws RX0 TX0 3, w ∈ wsX0_take := by decide +kernel
  have hinX6 : ∀ w ∈ u_ws RX6 TX6 4, w ∈ wsX0_take := by decide +kernel
  have hl := lv_entry ([.ref (ad (20 + b)), .int a0, .ref (ad j)]) (n := 4) (Nat.le_of_ble_eq_true rfl)
  rw [lg_entry_eq]
  generalize (lg_sl ([.ref (ad (20 + b)), .int a0, .ref (ad j)]) ++ List.replicate (4 - (lg_sl ([.ref (ad (20 + b)), .int a0, .ref (ad j)])).length) Slot.unset).toArray = ls at hl ⊢
  have hl : lv_has ls 4 [(0, .ref (ad (20 + b))), (1, .int a0), (2, .ref (ad j))] := hl
  refine lv_iload_n hx hb dX0_take_0 rfl (lv_at hl 1 rfl) ?_
  refine lv_aload_n hx hb dX0_take_1 rfl (lv_at hl 0 rfl) ?_
  refine z_gr (D := (dC, dI)) (cl := vwCl) (C := RX0) (T := TX0) (N := 3) (ci := 0) (k := 0) hx hb hts hinX0 hown hK hH (zk_b h_b) (by decide) rfl (by decide) rfl (zr_b h_b) (hts (.fieldLink RX0 10 "Steamfield$Block" "water" "LSteamfield$Water;") (by decide +kernel)) (fun _ h9 => h9) dX0_take_2 ?_
  refine z_giN (D := (dC, dI)) (cl := vwCl) (C := RX6) (T := TX6) (N := 4) (ci := 6) (k := 0) hx hb hts hinX6 hown hK hH (zk_w h_b) (by decide) rfl (by decide) rfl (hN (.fieldLinkNest RX0 27 "Steamfield$Water" "mass" "I" "Steamfield") (by decide +kernel)) (fun _ h9 => h9) dX0_take_5 ?_
  refine lv_topi (fun x1 ex1 => ?_)
  refine lv_iconst (v := 4) hx hb dX0_take_8 (by decide) ?_
  refine lv_idiv hx hb dX0_take_9 (by decide) ?_
  refine lv_topi (fun x2 ex2 => ?_)
  refine va_mmin hx hb (hml.trans hl.1.symm) hown (hts (.methodLink RX0 33 Lib.Math.min.name) (by decide +kernel)) (hts (.static Lib.Math.min.name) (by decide +kernel)) (hts (.initialized "java/lang/Math") (by decide +kernel)) (hts (.code Lib.Math.min.name Lib.Math.min.code 2 (some .int)) (by decide +kernel)) (Nat.le_of_ble_eq_true rfl) (Nat.le_of_ble_eq_true rfl) (Nat.le_refl _) (Nat.le_refl _) dX0_take_10 ?_
  refine lv_topi (fun x3 ex3 => ?_)
  refine lv_istore_n (lv' := [(3, .int x3), (0, .ref (ad (20 + b))), (1, .int a0), (2, .ref (ad j))]) hx hb dX0_take_13 rfl hl (by decide) rfl (fun ls hl => ?_)
  refine lv_aload_n hx hb dX0_take_14 rfl (lv_at hl 3 rfl) ?_
  refine lv_iload_n hx hb dX0_take_15 rfl (lv_at hl 0 rfl) ?_
  refine zp_iN (D := (dC, dI)) (cl := vwCl) (C := RX6) (T := TX6) (N := 4) (ci := 6) (k := 0) (ty := .int) hx hb hts hinX6 tyX6 tyX6_ok nmX6 hown hK hH hI hS (fun _ h => h) h_j (by decide) rfl (by decide) rfl (hN (.fieldLinkNest RX0 27 "Steamfield$Water" "mass" "I" "Steamfield") (by decide +kernel)) (fun _ h9 => h9) rfl (by decide +kernel) rfl rfl dX0_take_16 (fun H locs hH oq hS => ?_)
  obtain ⟨M4, hM4⟩ : ∃ z : zM, z = zu M j 0 x3 := ⟨_, rfl⟩
  rw [← hM4] at hH
  refine lv_aload_n hx hb dX0_take_19 rfl (lv_at hl 3 rfl) ?_
  refine lv_iload_n hx hb dX0_take_20 rfl (lv_at hl 0 rfl) ?_
  refine lv_aload_n hx hb dX0_take_21 rfl (lv_at hl 1 rfl) ?_
  refine z_cVi (D := (dC, dI)) (cl := vwCl) (tys := zt ca) (nw := zw_nest) (C := RX0) (As := []) (rest := [.int x3, .ref (ad j)]) ⟨hx, hb, hml, hown, hts⟩ (m_X0_warmth l dC dI ca ad hI M4 b h_b) (cwV 0 hts gX0_take_X0_warmth rfl rfl rfl (by decide +kernel) ⟨Nat.le_of_ble_eq_true rfl, Nat.le_of_ble_eq_true rfl⟩) (z_recv (ci := 0) (i := (20 + b)) hK hH (zk_b h_b) (by decide) rfl) hH hK hN zw_nest_ok rfl hl.1 rfl (Nat.le_of_ble_eq_true rfl) dX0_take_22 ⟨Nat.le_refl _, Nat.le_refl _⟩ hS (fun _ h => h) (fun H locs hB1 oq1 hz1 hS => ?_)
  have hH := hB1
  refine lv_topi (fun x5 ex5 => ?_)
  refine lv_imul hx hb dX0_take_25 ?_
  refine lv_topi (fun x6 ex6 => ?_)
  refine zp_iN (D := (dC, dI)) (cl := vwCl) (C := RX6) (T := TX6) (N := 4) (ci := 6) (k := 1) (ty := .int) hx hb hts hinX6 tyX6 tyX6_ok nmX6 hown hK hH hI hS (fun _ h => h) h_j (by decide) rfl (by decide) rfl (hN (.fieldLinkNest RX0 30 "Steamfield$Water" "heat" "I" "Steamfield") (by decide +kernel)) (fun _ h9 => h9) rfl (by decide +kernel) rfl rfl dX0_take_26 (fun H locs hH oq hS => ?_)
  obtain ⟨M7, hM7⟩ : ∃ z : zM, z = zu M4 j 1 x6 := ⟨_, rfl⟩
  rw [← hM7] at hH
  refine lv_aload_n hx hb dX0_take_29 rfl (lv_at hl 3 rfl) ?_
  refine lv_aload_n hx hb dX0_take_30 rfl (lv_at hl 1 rfl) ?_
  refine z_gr (D := (dC, dI)) (cl := vwCl) (C := RX0) (T := TX0) (N := 3) (ci := 0) (k := 0) hx hb hts hinX0 hown hK hH (zk_b h_b) (by decide) rfl (by decide) rfl (zr_b h_b) (hts (.fieldLink RX0 10 "Steamfield$Block" "water" "LSteamfield$Water;") (by decide +kernel)) (fun _ h9 => h9) dX0_take_31 ?_
  refine lv_aload_n hx hb dX0_take_34 rfl (lv_at hl 1 rfl) ?_
  refine z_gr (D := (dC, dI)) (cl := vwCl) (C := RX0) (T := TX0) (N := 3) (ci := 0) (k := 0) hx hb hts hinX0 hown hK hH (zk_b h_b) (by decide) rfl (by decide) rfl (zr_b h_b) (hts (.fieldLink RX0 10 "Steamfield$Block" "water" "LSteamfield$Water;") (by decide +kernel)) (fun _ h9 => h9) dX0_take_35 ?_
  refine z_giN (D := (dC, dI)) (cl := vwCl) (C := RX6) (T := TX6) (N := 4) (ci := 6) (k := 2) hx hb hts hinX6 hown hK hH (zk_w h_b) (by decide) rfl (by decide) rfl (hN (.fieldLinkNest RX0 43 "Steamfield$Water" "salt" "I" "Steamfield") (by decide +kernel)) (fun _ h9 => h9) dX0_take_38 ?_
  refine lv_topi (fun x8 ex8 => ?_)
  refine lv_iload_n hx hb dX0_take_41 rfl (lv_at hl 0 rfl) ?_
  refine z_cVi (D := (dC, dI)) (cl := vwCl) (tys := zt ca) (nw := zw_nest) (C := RX6) (As := [.int x8, .int x3]) (rest := [.ref (ad j)]) ⟨hx, hb, hml, hown, hts⟩ (m_X6_shareOf l dC dI ca ad hI M7 (30 + b) (zk_w h_b) x8 x3) (cwV 2 hts gX0_take_X6_shareOf rfl rfl rfl (by decide +kernel) ⟨Nat.le_of_ble_eq_true rfl, Nat.le_of_ble_eq_true rfl⟩) (z_recv (ci := 6) (i := (30 + b)) hK hH (zk_w h_b) (by decide) rfl) hH hK hN zw_nest_ok rfl hl.1 rfl (Nat.le_of_ble_eq_true rfl) dX0_take_42 ⟨Nat.le_refl _, Nat.le_refl _⟩ hS (fun _ h => h) (fun H locs hB1 oq1 hz1 hS => ?_)
  have hH := hB1
  refine lv_topi (fun x9 ex9 => ?_)
  refine zp_iN (D := (dC, dI)) (cl := vwCl) (C := RX6) (T := TX6) (N := 4) (ci := 6) (k := 2) (ty := .int) hx hb hts hinX6 tyX6 tyX6_ok nmX6 hown hK hH hI hS (fun _ h => h) h_j (by decide) rfl (by decide) rfl (hN (.fieldLinkNest RX0 43 "Steamfield$Water" "salt" "I" "Steamfield") (by decide +kernel)) (fun _ h9 => h9) rfl (by decide +kernel) rfl rfl dX0_take_45 (fun H locs hH oq hS => ?_)
  obtain ⟨M10, hM10⟩ : ∃ z : zM, z = zu M7 j 2 x9 := ⟨_, rfl⟩
  rw [← hM10] at hH
  refine lv_aload_n hx hb dX0_take_48 rfl (lv_at hl 3 rfl) ?_
  refine lv_aload_n hx hb dX0_take_49 rfl (lv_at hl 1 rfl) ?_
  refine z_gr (D := (dC, dI)) (cl := vwCl) (C := RX0) (T := TX0) (N := 3) (ci := 0) (k := 0) hx hb hts hinX0 hown hK hH (zk_b h_b) (by decide) rfl (by decide) rfl (zr_b h_b) (hts (.fieldLink RX0 10 "Steamfield$Block" "water" "LSteamfield$Water;") (by decide +kernel)) (fun _ h9 => h9) dX0_take_50 ?_
  refine lv_aload_n hx hb dX0_take_53 rfl (lv_at hl 1 rfl) ?_
  refine z_gr (D := (dC, dI)) (cl := vwCl) (C := RX0) (T := TX0) (N := 3) (ci := 0) (k := 0) hx hb hts hinX0 hown hK hH (zk_b h_b) (by decide) rfl (by decide) rfl (zr_b h_b) (hts (.fieldLink RX0 10 "Steamfield$Block" "water" "LSteamfield$Water;") (by decide +kernel)) (fun _ h9 => h9) dX0_take_54 ?_
  refine z_giN (D := (dC, dI)) (cl := vwCl) (C := RX6) (T := TX6) (N := 4) (ci := 6) (k := 3) hx hb hts hinX6 hown hK hH (zk_w h_b) (by decide) rfl (by decide) rfl (hN (.fieldLinkNest RX0 49 "Steamfield$Water" "tracer" "I" "Steamfield") (by decide +kernel)) (fun _ h9 => h9) dX0_take_57 ?_
  refine lv_topi (fun x11 ex11 => ?_)
  refine lv_iload_n hx hb dX0_take_60 rfl (lv_at hl 0 rfl) ?_
  refine z_cVi (D := (dC, dI)) (cl := vwCl) (tys := zt ca) (nw := zw_nest) (C := RX6) (As := [.int x11, .int x3]) (rest := [.ref (ad j)]) ⟨hx, hb, hml, hown, hts⟩ (m_X6_shareOf l dC dI ca ad hI M10 (30 + b) (zk_w h_b) x11 x3) (cwV 2 hts gX0_take_X6_shareOf rfl rfl rfl (by decide +kernel) ⟨Nat.le_of_ble_eq_true rfl, Nat.le_of_ble_eq_true rfl⟩) (z_recv (ci := 6) (i := (30 + b)) hK hH (zk_w h_b) (by decide) rfl) hH hK hN zw_nest_ok rfl hl.1 rfl (Nat.le_of_ble_eq_true rfl) dX0_take_61 ⟨Nat.le_refl _, Nat.le_refl _⟩ hS (fun _ h => h) (fun H locs hB1 oq1 hz1 hS => ?_)
  have hH := hB1
  refine lv_topi (fun x12 ex12 => ?_)
  refine zp_iN (D := (dC, dI)) (cl := vwCl) (C := RX6) (T := TX6) (N := 4) (ci := 6) (k := 3) (ty := .int) hx hb hts hinX6 tyX6 tyX6_ok nmX6 hown hK hH hI hS (fun _ h => h) h_j (by decide) rfl (by decide) rfl (hN (.fieldLinkNest RX0 49 "Steamfield$Water" "tracer" "I" "Steamfield") (by decide +kernel)) (fun _ h9 => h9) rfl (by decide +kernel) rfl rfl dX0_take_64 (fun H locs hH oq hS => ?_)
  obtain ⟨M13, hM13⟩ : ∃ z : zM, z = zu M10 j 3 x12 := ⟨_, rfl⟩
  rw [← hM13] at hH
  refine lv_aload_n hx hb dX0_take_67 rfl (lv_at hl 1 rfl) ?_
  refine z_gr (D := (dC, dI)) (cl := vwCl) (C := RX0) (T := TX0) (N := 3) (ci := 0) (k := 0) hx hb hts hinX0 hown hK hH (zk_b h_b) (by decide) rfl (by decide) rfl (zr_b h_b) (hts (.fieldLink RX0 10 "Steamfield$Block" "water" "LSteamfield$Water;") (by decide +kernel)) (fun _ h9 => h9) dX0_take_68 ?_
  refine lv_aload_n hx hb dX0_take_71 rfl (lv_at hl 3 rfl) ?_
  refine z_cVv (D := (dC, dI)) (cl := vwCl) (tys := zt ca) (nw := zw_nest) (C := RX6) (As := [.ref (ad j)]) (rest := []) ⟨hx, hb, hml, hown, hts⟩ (m_X6_remove l dC dI ca ad hI M13 (30 + b) (zk_w h_b) j h_j) (cwV 1 hts gX0_take_X6_remove rfl rfl rfl (by decide +kernel) ⟨Nat.le_of_ble_eq_true rfl, Nat.le_of_ble_eq_true rfl⟩) (z_recv (ci := 6) (i := (30 + b)) hK hH (zk_w h_b) (by decide) rfl) hH hK hN zw_nest_ok rfl hl.1 rfl (Nat.le_of_ble_eq_true rfl) dX0_take_72 ⟨Nat.le_refl _, Nat.le_refl _⟩ hS (fun _ h => h) (fun H locs hB1 oq1 hz1 hS => ?_)
  have hH := hB1
  obtain ⟨M14, hM14⟩ : ∃ z : zM, z = fX6_remove M13 (30 + b) j := ⟨_, rfl⟩
  have hH : z_H (dC, dI) vwCl zf ca zd ad M14 H := by rw [hM14]; exact hH
  have hF : zW dC dI ca ad (fX0_take M b a0 j) H := by
    have e9 : M14 = fX0_take M b a0 j := by subst hM14; subst hM13; subst ex12; subst ex11; subst hM10; subst ex9; subst ex8; subst hM7; subst ex6; subst ex5; subst hM4; subst ex3; subst ex2; subst ex1; rfl
    rw [← e9]; exact hH
  exact W.vret hx hb hr (fun t ht hW => ⟨⟨(), rfl, trivial, z_to (B := fun H => zW dC dI ca ad (fX0_take M b a0 j) H) ht hF⟩, hS.F ht⟩) hS.2.2 dX0_take_75

def fX7_note (M : zM) (v : Nat) (j : Nat) (a0 : Int32) : zM :=
  let x1 := M j 0
  let M2 := zu M (60 + v) 5 x1
  let M3 := zu M2 (60 + v) 6 a0
  let x4 := M3 j 3
  let M5 := zu M3 (60 + v) 7 x4
  let x6 := M5 (60 + v) 8
  let x7 := M5 j 0
  let x8 := x6 + x7
  let M9 := zu M5 (60 + v) 8 x8
  M9
theorem fx_X7_note (M : zM) (v : Nat) (h_v : v < 6) (j : Nat) (h_j : zk j = 6) (a0 : Int32) : z_Fx M (fX7_note M v j a0) := by
  unfold fX7_note
  dsimp only
  repeat first | exact z_Fx.rf | refine z_Fx.u2 (zk_v h_v) rfl ?_ | refine z_Fx.it ?_ ?_
set_option maxHeartbeats 4000000 in
set_option maxRecDepth 100000 in
theorem m_X7_note (l : Launch) (dC : Nat → ClassId) (dI : Nat → Nat → Nat) (ca : Nat → ClassId) (ad : Nat → Nat) (hI : z_I zd ad) (M : zM) (v : Nat) (h_v : v < 6) (j : Nat) (h_j : zk j = 6) (a0 : Int32) : Met l yX7_note wsX7_note ({ frames := 0, cells := 0, slots := 0, locals := 0 }) (z_Pc (dC, dI) vwCl (zt ca) zw_nest [.ref (ad (60 + v)), .ref (ad j), .int a0] (fun H => zW dC dI ca ad M H)) (z_Qv (fun H => zW dC dI ca ad (fX7_note M v j a0) H) (z_A zd ad)) 0 0 (z_A zd ad) := by
  refine Met.ofW (cc := cX7_note) (maxL := 3) (ret := none) (by decide) rfl ?_
  intro p e s m args below meth c s₁ B hml hv
  obtain ⟨rfl, hH, hK, hN⟩ := hv
  have hx := B.exec
  have hb := B.bytes
  have hr := B.returns
  have hts := atoms_spec (ws := wsX7_note) B.pre
  have hown : s.vm.findClass RX7 = some m.cls := findClass_of_methodNamed B.named
  have hlocks := B.notSynchronized
  have hS : va_S (z_A zd ad) s.heap s.heap [] := va_S.rf
  have hH : z_H (dC, dI) vwCl zf ca zd ad M s.heap := hH
  have hinX6 : ∀ w ∈ u_ws RX6 TX6 4, w ∈ wsX7_note := by decide +kernel
  have hinX7 : ∀ w ∈ u_ws RX7 TX7 9, w ∈ wsX7_note := by decide +kernel
  have hl := lv_entry ([.ref (ad (60 + v)), .ref (ad j), .int a0]) (n := 3) (Nat.le_of_ble_eq_true rfl)
  rw [lg_entry_eq]
  generalize (lg_sl ([.ref (ad (60 + v)), .ref (ad j), .int a0]) ++ List.replicate (3 - (lg_sl ([.ref (ad (60 + v)), .ref (ad j), .int a0])).length) Slot.unset).toArray = ls at hl ⊢
  have hl : lv_has ls 3 [(0, .ref (ad (60 + v))), (1, .ref (ad j)), (2, .int a0)] := hl
  refine lv_aload_n hx hb dX7_note_0 rfl (lv_at hl 0 rfl) ?_
  refine lv_aload_n hx hb dX7_note_1 rfl (lv_at hl 1 rfl) ?_
  refine z_giN (D := (dC, dI)) (cl := vwCl) (C := RX6) (T := TX6) (N := 4) (ci := 6) (k := 0) hx hb hts hinX6 hown hK hH h_j (by decide) rfl (by decide) rfl (hN (.fieldLinkNest RX7 40 "Steamfield$Water" "mass" "I" "Steamfield") (by decide +kernel)) (fun _ h9 => h9) dX7_note_2 ?_
  refine lv_topi (fun x1 ex1 => ?_)
  refine zp_i (D := (dC, dI)) (cl := vwCl) (C := RX7) (T := TX7) (N := 9) (ci := 7) (k := 5) (ty := .int) hx hb hts hinX7 tyX7 tyX7_ok nmX7 hown hK hH hI hS (fun _ h => h) (zk_v h_v) (by decide) rfl (by decide) rfl (hts (.fieldLink RX7 28 "Steamfield$Well" "flow" "I") (by decide +kernel)) (fun _ h9 => h9) rfl (by decide +kernel) rfl rfl dX7_note_5 (fun H locs hH oq hS => ?_)
  obtain ⟨M2, hM2⟩ : ∃ z : zM, z = zu M (60 + v) 5 x1 := ⟨_, rfl⟩
  rw [← hM2] at hH
  refine lv_aload_n hx hb dX7_note_8 rfl (lv_at hl 0 rfl) ?_
  refine lv_iload_n hx hb dX7_note_9 rfl (lv_at hl 2 rfl) ?_
  refine zp_i (D := (dC, dI)) (cl := vwCl) (C := RX7) (T := TX7) (N := 9) (ci := 7) (k := 6) (ty := .int) hx hb hts hinX7 tyX7 tyX7_ok nmX7 hown hK hH hI hS (fun _ h => h) (zk_v h_v) (by decide) rfl (by decide) rfl (hts (.fieldLink RX7 31 "Steamfield$Well" "steam" "I") (by decide +kernel)) (fun _ h9 => h9) rfl (by decide +kernel) rfl rfl dX7_note_10 (fun H locs hH oq hS => ?_)
  obtain ⟨M3, hM3⟩ : ∃ z : zM, z = zu M2 (60 + v) 6 a0 := ⟨_, rfl⟩
  rw [← hM3] at hH
  refine lv_aload_n hx hb dX7_note_13 rfl (lv_at hl 0 rfl) ?_
  refine lv_aload_n hx hb dX7_note_14 rfl (lv_at hl 1 rfl) ?_
  refine z_giN (D := (dC, dI)) (cl := vwCl) (C := RX6) (T := TX6) (N := 4) (ci := 6) (k := 3) hx hb hts hinX6 hown hK hH h_j (by decide) rfl (by decide) rfl (hN (.fieldLinkNest RX7 45 "Steamfield$Water" "tracer" "I" "Steamfield") (by decide +kernel)) (fun _ h9 => h9) dX7_note_15 ?_
  refine lv_topi (fun x4 ex4 => ?_)
  refine zp_i (D := (dC, dI)) (cl := vwCl) (C := RX7) (T := TX7) (N := 9) (ci := 7) (k := 7) (ty := .int) hx hb hts hinX7 tyX7 tyX7_ok nmX7 hown hK hH hI hS (fun _ h => h) (zk_v h_v) (by decide) rfl (by decide) rfl (hts (.fieldLink RX7 34 "Steamfield$Well" "tracer" "I") (by decide +kernel)) (fun _ h9 => h9) rfl (by decide +kernel) rfl rfl dX7_note_18 (fun H locs hH oq hS => ?_)
  obtain ⟨M5, hM5⟩ : ∃ z : zM, z = zu M3 (60 + v) 7 x4 := ⟨_, rfl⟩
  rw [← hM5] at hH
  refine lv_aload_n hx hb dX7_note_21 rfl (lv_at hl 0 rfl) ?_
  refine lv_dup hx hb dX7_note_22 rfl ?_
  refine z_gi (D := (dC, dI)) (cl := vwCl) (C := RX7) (T := TX7) (N := 9) (ci := 7) (k := 8) hx hb hts hinX7 hown hK hH (zk_v h_v) (by decide) rfl (by decide) rfl (hts (.fieldLink RX7 37 "Steamfield$Well" "flowEver" "I") (by decide +kernel)) (fun _ h9 => h9) dX7_note_23 ?_
  refine lv_topi (fun x6 ex6 => ?_)
  refine lv_aload_n hx hb dX7_note_26 rfl (lv_at hl 1 rfl) ?_
  refine z_giN (D := (dC, dI)) (cl := vwCl) (C := RX6) (T := TX6) (N := 4) (ci := 6) (k := 0) hx hb hts hinX6 hown hK hH h_j (by decide) rfl (by decide) rfl (hN (.fieldLinkNest RX7 40 "Steamfield$Water" "mass" "I" "Steamfield") (by decide +kernel)) (fun _ h9 => h9) dX7_note_27 ?_
  refine lv_topi (fun x7 ex7 => ?_)
  refine lv_iadd hx hb dX7_note_30 ?_
  refine lv_topi (fun x8 ex8 => ?_)
  refine zp_i (D := (dC, dI)) (cl := vwCl) (C := RX7) (T := TX7) (N := 9) (ci := 7) (k := 8) (ty := .int) hx hb hts hinX7 tyX7 tyX7_ok nmX7 hown hK hH hI hS (fun _ h => h) (zk_v h_v) (by decide) rfl (by decide) rfl (hts (.fieldLink RX7 37 "Steamfield$Well" "flowEver" "I") (by decide +kernel)) (fun _ h9 => h9) rfl (by decide +kernel) rfl rfl dX7_note_31 (fun H locs hH oq hS => ?_)
  obtain ⟨M9, hM9⟩ : ∃ z : zM, z = zu M5 (60 + v) 8 x8 := ⟨_, rfl⟩
  rw [← hM9] at hH
  have hF : zW dC dI ca ad (fX7_note M v j a0) H := by
    have e9 : M9 = fX7_note M v j a0 := by subst hM9; subst ex8; subst ex7; subst ex6; subst hM5; subst ex4; subst hM3; subst hM2; subst ex1; rfl
    rw [← e9]; exact hH
  exact W.vret hx hb hr (fun t ht hW => ⟨⟨(), rfl, trivial, z_to (B := fun H => zW dC dI ca ad (fX7_note M v j a0) H) ht hF⟩, hS.F ht⟩) hS.2.2 dX7_note_34

def fX7_growCrust (M : zM) (v : Nat) : zM :=
  let x1 := M (60 + v) 4
  let x2 := x1 + 1
  let M3 := zu M (60 + v) 4 x2
  let x4 := M3 (60 + v) 4
  let M6 := if x4 < 5 then M3 else (let M6 := zu M3 (60 + v) 4 0; let x7 := M6 (60 + v) 3; let x8 := x7 + 1; let x9 := if 9 < x8 then 9 else x8; let M10 := zu M6 (60 + v) 3 x9; M10)
  M6
theorem fx_X7_growCrust (M : zM) (v : Nat) (h_v : v < 6) : z_Fx M (fX7_growCrust M v) := by
  unfold fX7_growCrust
  dsimp only
  repeat first | exact z_Fx.rf | refine z_Fx.u2 (zk_v h_v) rfl ?_ | refine z_Fx.it ?_ ?_
set_option maxHeartbeats 4000000 in
set_option maxRecDepth 100000 in
theorem m_X7_growCrust (l : Launch) (dC : Nat → ClassId) (dI : Nat → Nat → Nat) (ca : Nat → ClassId) (ad : Nat → Nat) (hI : z_I zd ad) (M : zM) (v : Nat) (h_v : v < 6) : Met l yX7_growCrust wsX7_growCrust ({ frames := 1, cells := 0, slots := 0, locals := 21 }) (z_Pc (dC, dI) vwCl (zt ca) zw_nest [.ref (ad (60 + v))] (fun H => zW dC dI ca ad M H)) (z_Qv (fun H => zW dC dI ca ad (fX7_growCrust M v) H) (z_A zd ad)) 0 0 (z_A zd ad) := by
  refine Met.ofW (cc := cX7_growCrust) (maxL := 1) (ret := none) (by decide) rfl ?_
  intro p e s m args below meth c s₁ B hml hv
  obtain ⟨rfl, hH, hK, hN⟩ := hv
  have hx := B.exec
  have hb := B.bytes
  have hr := B.returns
  have hts := atoms_spec (ws := wsX7_growCrust) B.pre
  have hown : s.vm.findClass RX7 = some m.cls := findClass_of_methodNamed B.named
  have hlocks := B.notSynchronized
  have hS : va_S (z_A zd ad) s.heap s.heap [] := va_S.rf
  have hH : z_H (dC, dI) vwCl zf ca zd ad M s.heap := hH
  have hinX7 : ∀ w ∈ u_ws RX7 TX7 9, w ∈ wsX7_growCrust := by decide +kernel
  have hl := lv_entry ([.ref (ad (60 + v))]) (n := 1) (Nat.le_of_ble_eq_true rfl)
  rw [lg_entry_eq]
  generalize (lg_sl ([.ref (ad (60 + v))]) ++ List.replicate (1 - (lg_sl ([.ref (ad (60 + v))])).length) Slot.unset).toArray = ls at hl ⊢
  have hl : lv_has ls 1 [(0, .ref (ad (60 + v)))] := hl
  refine lv_aload_n hx hb dX7_growCrust_0 rfl (lv_at hl 0 rfl) ?_
  refine lv_dup hx hb dX7_growCrust_1 rfl ?_
  refine z_gi (D := (dC, dI)) (cl := vwCl) (C := RX7) (T := TX7) (N := 9) (ci := 7) (k := 4) hx hb hts hinX7 hown hK hH (zk_v h_v) (by decide) rfl (by decide) rfl (hts (.fieldLink RX7 25 "Steamfield$Well" "crust" "I") (by decide +kernel)) (fun _ h9 => h9) dX7_growCrust_2 ?_
  refine lv_topi (fun x1 ex1 => ?_)
  refine lv_iconst (v := 1) hx hb dX7_growCrust_5 (by decide) ?_
  refine lv_iadd hx hb dX7_growCrust_6 ?_
  refine lv_topi (fun x2 ex2 => ?_)
  refine zp_i (D := (dC, dI)) (cl := vwCl) (C := RX7) (T := TX7) (N := 9) (ci := 7) (k := 4) (ty := .int) hx hb hts hinX7 tyX7 tyX7_ok nmX7 hown hK hH hI hS (fun _ h => h) (zk_v h_v) (by decide) rfl (by decide) rfl (hts (.fieldLink RX7 25 "Steamfield$Well" "crust" "I") (by decide +kernel)) (fun _ h9 => h9) rfl (by decide +kernel) rfl rfl dX7_growCrust_7 (fun H locs hH oq hS => ?_)
  obtain ⟨M3, hM3⟩ : ∃ z : zM, z = zu M (60 + v) 4 x2 := ⟨_, rfl⟩
  rw [← hM3] at hH
  refine lv_aload_n hx hb dX7_growCrust_10 rfl (lv_at hl 0 rfl) ?_
  refine z_gi (D := (dC, dI)) (cl := vwCl) (C := RX7) (T := TX7) (N := 9) (ci := 7) (k := 4) hx hb hts hinX7 hown hK hH (zk_v h_v) (by decide) rfl (by decide) rfl (hts (.fieldLink RX7 25 "Steamfield$Well" "crust" "I") (by decide +kernel)) (fun _ h9 => h9) dX7_growCrust_11 ?_
  refine lv_topi (fun x4 ex4 => ?_)
  refine lv_iconst (v := 5) hx hb dX7_growCrust_14 (by decide) ?_
  have J7 : ∀ M6 : zM, M6 = (if x4 < 5 then M3 else (let M6 := zu M3 (60 + v) 4 0; let x7 := M6 (60 + v) 3; let x8 := x7 + 1; let x9 := if 9 < x8 then 9 else x8; let M10 := zu M6 (60 + v) 3 x9; M10)) → ∀ ls : Array Slot, lv_has ls 1 [(0, .ref (ad (60 + v)))] → ∀ (H : Heap) (locs : List Loc), z_H (dC, dI) vwCl zf ca zd ad M6 H → va_S (z_A zd ad) s.heap H locs → W p l e (headSpec wsX7_growCrust ({ frames := 1, cells := 0, slots := 0, locals := 21 })).room s m ([.ref (ad (60 + v))] : List Value).toArray below meth c H locs 0 0 (MQ below (z_Qv (fun H => zW dC dI ca ad (fX7_growCrust M v) H) (z_A zd ad)) ([.ref (ad (60 + v))] : List Value).toArray s 0 0 (z_A zd ad)) (F0 m 38 ls []) := by
    intro M6 hM6 ls hl H locs hH hS
    have hF : zW dC dI ca ad (fX7_growCrust M v) H := by
      have e9 : M6 = fX7_growCrust M v := by subst hM6; subst ex4; subst hM3; subst ex2; subst ex1; rfl
      rw [← e9]; exact hH
    exact W.vret hx hb hr (fun t ht hW => ⟨⟨(), rfl, trivial, z_to (B := fun H => zW dC dI ca ad (fX7_growCrust M v) H) ht hF⟩, hS.F ht⟩) hS.2.2 dX7_growCrust_38
  refine lv_icmp_lt (tgt := 38) hx hb dX7_growCrust_15 (by decide) (fun c5 => ?_) (fun c5 => ?_)
  · exact J7 _ (by exact (if_pos c5).symm) ls (lv_sub hl [0] rfl) _ _ hH hS
  · refine lv_aload_n hx hb dX7_growCrust_18 rfl (lv_at hl 0 rfl) ?_
    refine lv_iconst (v := 0) hx hb dX7_growCrust_19 (by decide) ?_
    refine zp_i (D := (dC, dI)) (cl := vwCl) (C := RX7) (T := TX7) (N := 9) (ci := 7) (k := 4) (ty := .int) hx hb hts hinX7 tyX7 tyX7_ok nmX7 hown hK hH hI hS (fun _ h => h) (zk_v h_v) (by decide) rfl (by decide) rfl (hts (.fieldLink RX7 25 "Steamfield$Well" "crust" "I") (by decide +kernel)) (fun _ h9 => h9) rfl (by decide +kernel) rfl rfl dX7_growCrust_20 (fun H locs hH oq hS => ?_)
    obtain ⟨M6, hM6⟩ : ∃ z : zM, z = zu M3 (60 + v) 4 0 := ⟨_, rfl⟩
    rw [← hM6] at hH
    refine lv_aload_n hx hb dX7_growCrust_23 rfl (lv_at hl 0 rfl) ?_
    refine lv_aload_n hx hb dX7_growCrust_24 rfl (lv_at hl 0 rfl) ?_
    refine z_gi (D := (dC, dI)) (cl := vwCl) (C := RX7) (T := TX7) (N := 9) (ci := 7) (k := 3) hx hb hts hinX7 hown hK hH (zk_v h_v) (by decide) rfl (by decide) rfl (hts (.fieldLink RX7 22 "Steamfield$Well" "scale" "I") (by decide +kernel)) (fun _ h9 => h9) dX7_growCrust_25 ?_
    refine lv_topi (fun x7 ex7 => ?_)
    refine lv_iconst (v := 1) hx hb dX7_growCrust_28 (by decide) ?_
    refine lv_iadd hx hb dX7_growCrust_29 ?_
    refine lv_topi (fun x8 ex8 => ?_)
    refine lv_bipush (v := 9) hx hb dX7_growCrust_30 (by decide) ?_
    refine va_mmin hx hb (hml.trans hl.1.symm) hown (hts (.methodLink RX7 46 Lib.Math.min.name) (by decide +kernel)) (hts (.static Lib.Math.min.name) (by decide +kernel)) (hts (.initialized "java/lang/Math") (by decide +kernel)) (hts (.code Lib.Math.min.name Lib.Math.min.code 2 (some .int)) (by decide +kernel)) (Nat.le_of_ble_eq_true rfl) (Nat.le_of_ble_eq_true rfl) (Nat.le_refl _) (Nat.le_refl _) dX7_growCrust_32 ?_
    refine lv_topi (fun x9 ex9 => ?_)
    refine zp_i (D := (dC, dI)) (cl := vwCl) (C := RX7) (T := TX7) (N := 9) (ci := 7) (k := 3) (ty := .int) hx hb hts hinX7 tyX7 tyX7_ok nmX7 hown hK hH hI hS (fun _ h => h) (zk_v h_v) (by decide) rfl (by decide) rfl (hts (.fieldLink RX7 22 "Steamfield$Well" "scale" "I") (by decide +kernel)) (fun _ h9 => h9) rfl (by decide +kernel) rfl rfl dX7_growCrust_35 (fun H locs hH oq hS => ?_)
    obtain ⟨M10, hM10⟩ : ∃ z : zM, z = zu M6 (60 + v) 3 x9 := ⟨_, rfl⟩
    rw [← hM10] at hH
    exact J7 _ (by subst hM10; subst ex9; subst ex8; subst ex7; subst hM6; exact (if_neg c5).symm) ls (lv_sub hl [0] rfl) _ _ hH hS

def fX5_note (M : zM) (s0 : Nat) (a0 : Int32) : zM :=
  let M1 := zu M (70 + s0) 3 a0
  let x2 := M1 (70 + s0) 2
  let x3 := x2 - a0
  let x4 := if x3 < 0 then 0 else x3
  let M5 := zu M1 (70 + s0) 4 x4
  let x6 := M5 (70 + s0) 5
  let x7 := M5 (70 + s0) 3
  let x8 := x6 + x7
  let M9 := zu M5 (70 + s0) 5 x8
  let x10 := M9 (70 + s0) 6
  let x11 := M9 (70 + s0) 4
  let x12 := x10 + x11
  let M13 := zu M9 (70 + s0) 6 x12
  M13
theorem fx_X5_note (M : zM) (s0 : Nat) (h_s0 : s0 < 3) (a0 : Int32) : z_Fx M (fX5_note M s0 a0) := by
  unfold fX5_note
  dsimp only
  repeat first | exact z_Fx.rf | refine z_Fx.u2 (zk_s h_s0) rfl ?_ | refine z_Fx.it ?_ ?_
set_option maxHeartbeats 4000000 in
set_option maxRecDepth 100000 in
theorem m_X5_note (l : Launch) (dC : Nat → ClassId) (dI : Nat → Nat → Nat) (ca : Nat → ClassId) (ad : Nat → Nat) (hI : z_I zd ad) (M : zM) (s0 : Nat) (h_s0 : s0 < 3) (a0 : Int32) : Met l yX5_note wsX5_note ({ frames := 1, cells := 0, slots := 0, locals := 21 }) (z_Pc (dC, dI) vwCl (zt ca) zw_nest [.ref (ad (70 + s0)), .int a0] (fun H => zW dC dI ca ad M H)) (z_Qv (fun H => zW dC dI ca ad (fX5_note M s0 a0) H) (z_A zd ad)) 0 0 (z_A zd ad) := by
  refine Met.ofW (cc := cX5_note) (maxL := 2) (ret := none) (by decide) rfl ?_
  intro p e s m args below meth c s₁ B hml hv
  obtain ⟨rfl, hH, hK, hN⟩ := hv
  have hx := B.exec
  have hb := B.bytes
  have hr := B.returns
  have hts := atoms_spec (ws := wsX5_note) B.pre
  have hown : s.vm.findClass RX5 = some m.cls := findClass_of_methodNamed B.named
  have hlocks := B.notSynchronized
  have hS : va_S (z_A zd ad) s.heap s.heap [] := va_S.rf
  have hH : z_H (dC, dI) vwCl zf ca zd ad M s.heap := hH
  have hinX5 : ∀ w ∈ u_ws RX5 TX5 7, w ∈ wsX5_note := by decide +kernel
  have hl := lv_entry ([.ref (ad (70 + s0)), .int a0]) (n := 2) (Nat.le_of_ble_eq_true rfl)
  rw [lg_entry_eq]
  generalize (lg_sl ([.ref (ad (70 + s0)), .int a0]) ++ List.replicate (2 - (lg_sl ([.ref (ad (70 + s0)), .int a0])).length) Slot.unset).toArray = ls at hl ⊢
  have hl : lv_has ls 2 [(0, .ref (ad (70 + s0))), (1, .int a0)] := hl
  refine lv_aload_n hx hb dX5_note_0 rfl (lv_at hl 0 rfl) ?_
  refine lv_iload_n hx hb dX5_note_1 rfl (lv_at hl 1 rfl) ?_
  refine zp_i (D := (dC, dI)) (cl := vwCl) (C := RX5) (T := TX5) (N := 7) (ci := 5) (k := 3) (ty := .int) hx hb hts hinX5 tyX5 tyX5_ok nmX5 hown hK hH hI hS (fun _ h => h) (zk_s h_s0) (by decide) rfl (by decide) rfl (hts (.fieldLink RX5 19 "Steamfield$Spring" "flow" "I") (by decide +kernel)) (fun _ h9 => h9) rfl (by decide +kernel) rfl rfl dX5_note_2 (fun H locs hH oq hS => ?_)
  obtain ⟨M1, hM1⟩ : ∃ z : zM, z = zu M (70 + s0) 3 a0 := ⟨_, rfl⟩
  rw [← hM1] at hH
  refine lv_aload_n hx hb dX5_note_5 rfl (lv_at hl 0 rfl) ?_
  refine lv_aload_n hx hb dX5_note_6 rfl (lv_at hl 0 rfl) ?_
  refine z_gi (D := (dC, dI)) (cl := vwCl) (C := RX5) (T := TX5) (N := 7) (ci := 5) (k := 2) hx hb hts hinX5 hown hK hH (zk_s h_s0) (by decide) rfl (by decide) rfl (hts (.fieldLink RX5 16 "Steamfield$Spring" "promise" "I") (by decide +kernel)) (fun _ h9 => h9) dX5_note_7 ?_
  refine lv_topi (fun x2 ex2 => ?_)
  refine lv_iload_n hx hb dX5_note_10 rfl (lv_at hl 1 rfl) ?_
  refine lv_isub hx hb dX5_note_11 ?_
  refine lv_topi (fun x3 ex3 => ?_)
  refine lv_iconst (v := 0) hx hb dX5_note_12 (by decide) ?_
  refine va_mmax hx hb (hml.trans hl.1.symm) hown (hts (.methodLink RX5 31 Lib.Math.max.name) (by decide +kernel)) (hts (.static Lib.Math.max.name) (by decide +kernel)) (hts (.initialized "java/lang/Math") (by decide +kernel)) (hts (.code Lib.Math.max.name Lib.Math.max.code 2 (some .int)) (by decide +kernel)) (Nat.le_of_ble_eq_true rfl) (Nat.le_of_ble_eq_true rfl) (Nat.le_refl _) (Nat.le_refl _) dX5_note_13 ?_
  refine lv_topi (fun x4 ex4 => ?_)
  refine zp_i (D := (dC, dI)) (cl := vwCl) (C := RX5) (T := TX5) (N := 7) (ci := 5) (k := 4) (ty := .int) hx hb hts hinX5 tyX5 tyX5_ok nmX5 hown hK hH hI hS (fun _ h => h) (zk_s h_s0) (by decide) rfl (by decide) rfl (hts (.fieldLink RX5 22 "Steamfield$Spring" "lacked" "I") (by decide +kernel)) (fun _ h9 => h9) rfl (by decide +kernel) rfl rfl dX5_note_16 (fun H locs hH oq hS => ?_)
  obtain ⟨M5, hM5⟩ : ∃ z : zM, z = zu M1 (70 + s0) 4 x4 := ⟨_, rfl⟩
  rw [← hM5] at hH
  refine lv_aload_n hx hb dX5_note_19 rfl (lv_at hl 0 rfl) ?_
  refine lv_dup hx hb dX5_note_20 rfl ?_
  refine z_gi (D := (dC, dI)) (cl := vwCl) (C := RX5) (T := TX5) (N := 7) (ci := 5) (k := 5) hx hb hts hinX5 hown hK hH (zk_s h_s0) (by decide) rfl (by decide) rfl (hts (.fieldLink RX5 25 "Steamfield$Spring" "flowEver" "I") (by decide +kernel)) (fun _ h9 => h9) dX5_note_21 ?_
  refine lv_topi (fun x6 ex6 => ?_)
  refine lv_aload_n hx hb dX5_note_24 rfl (lv_at hl 0 rfl) ?_
  refine z_gi (D := (dC, dI)) (cl := vwCl) (C := RX5) (T := TX5) (N := 7) (ci := 5) (k := 3) hx hb hts hinX5 hown hK hH (zk_s h_s0) (by decide) rfl (by decide) rfl (hts (.fieldLink RX5 19 "Steamfield$Spring" "flow" "I") (by decide +kernel)) (fun _ h9 => h9) dX5_note_25 ?_
  refine lv_topi (fun x7 ex7 => ?_)
  refine lv_iadd hx hb dX5_note_28 ?_
  refine lv_topi (fun x8 ex8 => ?_)
  refine zp_i (D := (dC, dI)) (cl := vwCl) (C := RX5) (T := TX5) (N := 7) (ci := 5) (k := 5) (ty := .int) hx hb hts hinX5 tyX5 tyX5_ok nmX5 hown hK hH hI hS (fun _ h => h) (zk_s h_s0) (by decide) rfl (by decide) rfl (hts (.fieldLink RX5 25 "Steamfield$Spring" "flowEver" "I") (by decide +kernel)) (fun _ h9 => h9) rfl (by decide +kernel) rfl rfl dX5_note_29 (fun H locs hH oq hS => ?_)
  obtain ⟨M9, hM9⟩ : ∃ z : zM, z = zu M5 (70 + s0) 5 x8 := ⟨_, rfl⟩
  rw [← hM9] at hH
  refine lv_aload_n hx hb dX5_note_32 rfl (lv_at hl 0 rfl) ?_
  refine lv_dup hx hb dX5_note_33 rfl ?_
  refine z_gi (D := (dC, dI)) (cl := vwCl) (C := RX5) (T := TX5) (N := 7) (ci := 5) (k := 6) hx hb hts hinX5 hown hK hH (zk_s h_s0) (by decide) rfl (by decide) rfl (hts (.fieldLink RX5 28 "Steamfield$Spring" "lackedEver" "I") (by decide +kernel)) (fun _ h9 => h9) dX5_note_34 ?_
  refine lv_topi (fun x10 ex10 => ?_)
  refine lv_aload_n hx hb dX5_note_37 rfl (lv_at hl 0 rfl) ?_
  refine z_gi (D := (dC, dI)) (cl := vwCl) (C := RX5) (T := TX5) (N := 7) (ci := 5) (k := 4) hx hb hts hinX5 hown hK hH (zk_s h_s0) (by decide) rfl (by decide) rfl (hts (.fieldLink RX5 22 "Steamfield$Spring" "lacked" "I") (by decide +kernel)) (fun _ h9 => h9) dX5_note_38 ?_
  refine lv_topi (fun x11 ex11 => ?_)
  refine lv_iadd hx hb dX5_note_41 ?_
  refine lv_topi (fun x12 ex12 => ?_)
  refine zp_i (D := (dC, dI)) (cl := vwCl) (C := RX5) (T := TX5) (N := 7) (ci := 5) (k := 6) (ty := .int) hx hb hts hinX5 tyX5 tyX5_ok nmX5 hown hK hH hI hS (fun _ h => h) (zk_s h_s0) (by decide) rfl (by decide) rfl (hts (.fieldLink RX5 28 "Steamfield$Spring" "lackedEver" "I") (by decide +kernel)) (fun _ h9 => h9) rfl (by decide +kernel) rfl rfl dX5_note_42 (fun H locs hH oq hS => ?_)
  obtain ⟨M13, hM13⟩ : ∃ z : zM, z = zu M9 (70 + s0) 6 x12 := ⟨_, rfl⟩
  rw [← hM13] at hH
  have hF : zW dC dI ca ad (fX5_note M s0 a0) H := by
    have e9 : M13 = fX5_note M s0 a0 := by subst hM13; subst ex12; subst ex11; subst ex10; subst hM9; subst ex8; subst ex7; subst ex6; subst hM5; subst ex4; subst ex3; subst ex2; subst hM1; rfl
    rw [← e9]; exact hH
  exact W.vret hx hb hr (fun t ht hW => ⟨⟨(), rfl, trivial, z_to (B := fun H => zW dC dI ca ad (fX5_note M s0 a0) H) ht hF⟩, hS.F ht⟩) hS.2.2 dX5_note_45

def fX6_copyFrom (M : zM) (N : zM) (i : Nat) (j : Nat) : zM :=
  let x1 := N j 0
  let M2 := zu M i 0 x1
  let x3 := N j 1
  let M4 := zu M2 i 1 x3
  let x5 := N j 2
  let M6 := zu M4 i 2 x5
  let x7 := N j 3
  let M8 := zu M6 i 3 x7
  M8
set_option maxHeartbeats 4000000 in
set_option maxRecDepth 100000 in
theorem m_X6_copyFrom (l : Launch) (dC : Nat → ClassId) (dI : Nat → Nat → Nat) (ca : Nat → ClassId) (ad : Nat → Nat) (hI : z_I zd ad) (ad2 : Nat → Nat) (hI2 : z_I zd ad2) (hX : ∀ i j, zk i < 200 → zk j < 200 → ad i ≠ ad2 j) (M : zM) (N : zM) (i : Nat) (h_i : zk i = 6) (j : Nat) (h_j : zk j = 6) : Met l yX6_copyFrom wsX6_copyFrom ({ frames := 0, cells := 0, slots := 0, locals := 0 }) (z_Pc (dC, dI) vwCl (zt ca) zw_nest [.ref (ad i), .ref (ad2 j)] (fun H => zW dC dI ca ad M H ∧ zW dC dI ca ad2 N H)) (z_Qv (fun H => zW dC dI ca ad (fX6_copyFrom M N i j) H ∧ zW dC dI ca ad2 N H) (z_A zd ad)) 0 0 (z_A zd ad) := by
  refine Met.ofW (cc := cX6_copyFrom) (maxL := 2) (ret := none) (by decide) rfl ?_
  intro p e s m args below meth c s₁ B hml hv
  obtain ⟨rfl, ⟨hH, hG⟩, hK, hN⟩ := hv
  have hx := B.exec
  have hb := B.bytes
  have hr := B.returns
  have hts := atoms_spec (ws := wsX6_copyFrom) B.pre
  have hown : s.vm.findClass RX6 = some m.cls := findClass_of_methodNamed B.named
  have hlocks := B.notSynchronized
  have hS : va_S (z_A zd ad) s.heap s.heap [] := va_S.rf
  have hH : z_H (dC, dI) vwCl zf ca zd ad M s.heap := hH
  have hG : z_H (dC, dI) vwCl zf ca zd ad2 N s.heap := hG
  have hinX6 : ∀ w ∈ u_ws RX6 TX6 4, w ∈ wsX6_copyFrom := by decide +kernel
  have hl := lv_entry ([.ref (ad i), .ref (ad2 j)]) (n := 2) (Nat.le_of_ble_eq_true rfl)
  rw [lg_entry_eq]
  generalize (lg_sl ([.ref (ad i), .ref (ad2 j)]) ++ List.replicate (2 - (lg_sl ([.ref (ad i), .ref (ad2 j)])).length) Slot.unset).toArray = ls at hl ⊢
  have hl : lv_has ls 2 [(0, .ref (ad i)), (1, .ref (ad2 j))] := hl
  refine lv_aload_n hx hb dX6_copyFrom_0 rfl (lv_at hl 0 rfl) ?_
  refine lv_aload_n hx hb dX6_copyFrom_1 rfl (lv_at hl 1 rfl) ?_
  refine z_gi (D := (dC, dI)) (cl := vwCl) (C := RX6) (T := TX6) (N := 4) (ci := 6) (k := 0) hx hb hts hinX6 hown hK hG h_j (by decide) rfl (by decide) rfl (hts (.fieldLink RX6 7 "Steamfield$Water" "mass" "I") (by decide +kernel)) (fun _ h9 => h9) dX6_copyFrom_2 ?_
  refine lv_topi (fun x1 ex1 => ?_)
  refine zp_i (D := (dC, dI)) (cl := vwCl) (C := RX6) (T := TX6) (N := 4) (ci := 6) (k := 0) (ty := .int) hx hb hts hinX6 tyX6 tyX6_ok nmX6 hown hK hH hI hS (fun _ h => h) h_i (by decide) rfl (by decide) rfl (hts (.fieldLink RX6 7 "Steamfield$Water" "mass" "I") (by decide +kernel)) (fun _ h9 => h9) rfl (by decide +kernel) rfl rfl dX6_copyFrom_5 (fun H locs hH oq hS => ?_)
  have hG := hG.kept (fun j hj => oq _ (fun z => hX _ _ (show zk i < 200 by rw [h_i]; decide) hj z.symm))
  obtain ⟨M2, hM2⟩ : ∃ z : zM, z = zu M i 0 x1 := ⟨_, rfl⟩
  rw [← hM2] at hH
  refine lv_aload_n hx hb dX6_copyFrom_8 rfl (lv_at hl 0 rfl) ?_
  refine lv_aload_n hx hb dX6_copyFrom_9 rfl (lv_at hl 1 rfl) ?_
  refine z_gi (D := (dC, dI)) (cl := vwCl) (C := RX6) (T := TX6) (N := 4) (ci := 6) (k := 1) hx hb hts hinX6 hown hK hG h_j (by decide) rfl (by decide) rfl (hts (.fieldLink RX6 13 "Steamfield$Water" "heat" "I") (by decide +kernel)) (fun _ h9 => h9) dX6_copyFrom_10 ?_
  refine lv_topi (fun x3 ex3 => ?_)
  refine zp_i (D := (dC, dI)) (cl := vwCl) (C := RX6) (T := TX6) (N := 4) (ci := 6) (k := 1) (ty := .int) hx hb hts hinX6 tyX6 tyX6_ok nmX6 hown hK hH hI hS (fun _ h => h) h_i (by decide) rfl (by decide) rfl (hts (.fieldLink RX6 13 "Steamfield$Water" "heat" "I") (by decide +kernel)) (fun _ h9 => h9) rfl (by decide +kernel) rfl rfl dX6_copyFrom_13 (fun H locs hH oq hS => ?_)
  have hG := hG.kept (fun j hj => oq _ (fun z => hX _ _ (show zk i < 200 by rw [h_i]; decide) hj z.symm))
  obtain ⟨M4, hM4⟩ : ∃ z : zM, z = zu M2 i 1 x3 := ⟨_, rfl⟩
  rw [← hM4] at hH
  refine lv_aload_n hx hb dX6_copyFrom_16 rfl (lv_at hl 0 rfl) ?_
  refine lv_aload_n hx hb dX6_copyFrom_17 rfl (lv_at hl 1 rfl) ?_
  refine z_gi (D := (dC, dI)) (cl := vwCl) (C := RX6) (T := TX6) (N := 4) (ci := 6) (k := 2) hx hb hts hinX6 hown hK hG h_j (by decide) rfl (by decide) rfl (hts (.fieldLink RX6 16 "Steamfield$Water" "salt" "I") (by decide +kernel)) (fun _ h9 => h9) dX6_copyFrom_18 ?_
  refine lv_topi (fun x5 ex5 => ?_)
  refine zp_i (D := (dC, dI)) (cl := vwCl) (C := RX6) (T := TX6) (N := 4) (ci := 6) (k := 2) (ty := .int) hx hb hts hinX6 tyX6 tyX6_ok nmX6 hown hK hH hI hS (fun _ h => h) h_i (by decide) rfl (by decide) rfl (hts (.fieldLink RX6 16 "Steamfield$Water" "salt" "I") (by decide +kernel)) (fun _ h9 => h9) rfl (by decide +kernel) rfl rfl dX6_copyFrom_21 (fun H locs hH oq hS => ?_)
  have hG := hG.kept (fun j hj => oq _ (fun z => hX _ _ (show zk i < 200 by rw [h_i]; decide) hj z.symm))
  obtain ⟨M6, hM6⟩ : ∃ z : zM, z = zu M4 i 2 x5 := ⟨_, rfl⟩
  rw [← hM6] at hH
  refine lv_aload_n hx hb dX6_copyFrom_24 rfl (lv_at hl 0 rfl) ?_
  refine lv_aload_n hx hb dX6_copyFrom_25 rfl (lv_at hl 1 rfl) ?_
  refine z_gi (D := (dC, dI)) (cl := vwCl) (C := RX6) (T := TX6) (N := 4) (ci := 6) (k := 3) hx hb hts hinX6 hown hK hG h_j (by decide) rfl (by decide) rfl (hts (.fieldLink RX6 19 "Steamfield$Water" "tracer" "I") (by decide +kernel)) (fun _ h9 => h9) dX6_copyFrom_26 ?_
  refine lv_topi (fun x7 ex7 => ?_)
  refine zp_i (D := (dC, dI)) (cl := vwCl) (C := RX6) (T := TX6) (N := 4) (ci := 6) (k := 3) (ty := .int) hx hb hts hinX6 tyX6 tyX6_ok nmX6 hown hK hH hI hS (fun _ h => h) h_i (by decide) rfl (by decide) rfl (hts (.fieldLink RX6 19 "Steamfield$Water" "tracer" "I") (by decide +kernel)) (fun _ h9 => h9) rfl (by decide +kernel) rfl rfl dX6_copyFrom_29 (fun H locs hH oq hS => ?_)
  have hG := hG.kept (fun j hj => oq _ (fun z => hX _ _ (show zk i < 200 by rw [h_i]; decide) hj z.symm))
  obtain ⟨M8, hM8⟩ : ∃ z : zM, z = zu M6 i 3 x7 := ⟨_, rfl⟩
  rw [← hM8] at hH
  have hF : zW dC dI ca ad (fX6_copyFrom M N i j) H := by
    have e9 : M8 = fX6_copyFrom M N i j := by subst hM8; subst ex7; subst hM6; subst ex5; subst hM4; subst ex3; subst hM2; subst ex1; rfl
    rw [← e9]; exact hH
  exact W.vret hx hb hr (fun t ht hW => ⟨⟨(), rfl, trivial, z_to (B := fun H => zW dC dI ca ad (fX6_copyFrom M N i j) H ∧ zW dC dI ca ad2 N H) ht ⟨hF, hG⟩⟩, hS.F ht⟩) hS.2.2 dX6_copyFrom_32

def fX0_copyFrom (M : zM) (N : zM) (b : Nat) (b2 : Nat) : zM :=
  let M1 := fX6_copyFrom M N (30 + b) (30 + b2)
  let x2 := N (20 + b2) 1
  let M3 := zu M1 (20 + b) 1 x2
  let x4 := N (20 + b2) 2
  let M5 := zu M3 (20 + b) 2 x4
  M5
set_option maxHeartbeats 4000000 in
set_option maxRecDepth 100000 in
theorem m_X0_copyFrom (l : Launch) (dC : Nat → ClassId) (dI : Nat → Nat → Nat) (ca : Nat → ClassId) (ad : Nat → Nat) (hI : z_I zd ad) (ad2 : Nat → Nat) (hI2 : z_I zd ad2) (hX : ∀ i j, zk i < 200 → zk j < 200 → ad i ≠ ad2 j) (M : zM) (N : zM) (b : Nat) (h_b : b < 8) (b2 : Nat) (h_b2 : b2 < 8) : Met l yX0_copyFrom wsX0_copyFrom ({ frames := 1, cells := 0, slots := 0, locals := 21 }) (z_Pc (dC, dI) vwCl (zt ca) zw_nest [.ref (ad (20 + b)), .ref (ad2 (20 + b2))] (fun H => zW dC dI ca ad M H ∧ zW dC dI ca ad2 N H)) (z_Qv (fun H => zW dC dI ca ad (fX0_copyFrom M N b b2) H ∧ zW dC dI ca ad2 N H) (z_A zd ad)) 0 0 (z_A zd ad) := by
  refine Met.ofW (cc := cX0_copyFrom) (maxL := 2) (ret := none) (by decide) rfl ?_
  intro p e s m args below meth c s₁ B hml hv
  obtain ⟨rfl, ⟨hH, hG⟩, hK, hN⟩ := hv
  have hx := B.exec
  have hb := B.bytes
  have hr := B.returns
  have hts := atoms_spec (ws := wsX0_copyFrom) B.pre
  have hown : s.vm.findClass RX0 = some m.cls := findClass_of_methodNamed B.named
  have hlocks := B.notSynchronized
  have hS : va_S (z_A zd ad) s.heap s.heap [] := va_S.rf
  have hH : z_H (dC, dI) vwCl zf ca zd ad M s.heap := hH
  have hG : z_H (dC, dI) vwCl zf ca zd ad2 N s.heap := hG
  have hinX0 : ∀ w ∈ u_ws RX0 TX0 3, w ∈ wsX0_copyFrom := by decide +kernel
  have hl := lv_entry ([.ref (ad (20 + b)), .ref (ad2 (20 + b2))]) (n := 2) (Nat.le_of_ble_eq_true rfl)
  rw [lg_entry_eq]
  generalize (lg_sl ([.ref (ad (20 + b)), .ref (ad2 (20 + b2))]) ++ List.replicate (2 - (lg_sl ([.ref (ad (20 + b)), .ref (ad2 (20 + b2))])).length) Slot.unset).toArray = ls at hl ⊢
  have hl : lv_has ls 2 [(0, .ref (ad (20 + b))), (1, .ref (ad2 (20 + b2)))] := hl
  refine lv_aload_n hx hb dX0_copyFrom_0 rfl (lv_at hl 0 rfl) ?_
  refine z_gr (D := (dC, dI)) (cl := vwCl) (C := RX0) (T := TX0) (N := 3) (ci := 0) (k := 0) hx hb hts hinX0 hown hK hH (zk_b h_b) (by decide) rfl (by decide) rfl (zr_b h_b) (hts (.fieldLink RX0 10 "Steamfield$Block" "water" "LSteamfield$Water;") (by decide +kernel)) (fun _ h9 => h9) dX0_copyFrom_1 ?_
  refine lv_aload_n hx hb dX0_copyFrom_4 rfl (lv_at hl 1 rfl) ?_
  refine z_gr (D := (dC, dI)) (cl := vwCl) (C := RX0) (T := TX0) (N := 3) (ci := 0) (k := 0) hx hb hts hinX0 hown hK hG (zk_b h_b2) (by decide) rfl (by decide) rfl (zr_b h_b2) (hts (.fieldLink RX0 10 "Steamfield$Block" "water" "LSteamfield$Water;") (by decide +kernel)) (fun _ h9 => h9) dX0_copyFrom_5 ?_
  refine z_cVv (D := (dC, dI)) (cl := vwCl) (tys := zt ca) (nw := zw_nest) (C := RX6) (As := [.ref (ad2 (30 + b2))]) (rest := []) ⟨hx, hb, hml, hown, hts⟩ (m_X6_copyFrom l dC dI ca ad hI ad2 hI2 hX M N (30 + b) (zk_w h_b) (30 + b2) (zk_w h_b2)) (cwV 1 hts gX0_copyFrom_X6_copyFrom rfl rfl rfl (by decide +kernel) ⟨Nat.le_of_ble_eq_true rfl, Nat.le_of_ble_eq_true rfl⟩) (z_recv (ci := 6) (i := (30 + b)) hK hH (zk_w h_b) (by decide) rfl) ⟨hH, hG⟩ hK hN zw_nest_ok rfl hl.1 rfl (Nat.le_of_ble_eq_true rfl) dX0_copyFrom_8 ⟨Nat.le_refl _, Nat.le_refl _⟩ hS (fun _ h => h) (fun H locs hB1 oq1 hz1 hS => ?_)
  obtain ⟨hH, hG⟩ := hB1
  obtain ⟨M1, hM1⟩ : ∃ z : zM, z = fX6_copyFrom M N (30 + b) (30 + b2) := ⟨_, rfl⟩
  have hH : z_H (dC, dI) vwCl zf ca zd ad M1 H := by rw [hM1]; exact hH
  refine lv_aload_n hx hb dX0_copyFrom_11 rfl (lv_at hl 0 rfl) ?_
  refine lv_aload_n hx hb dX0_copyFrom_12 rfl (lv_at hl 1 rfl) ?_
  refine z_gi (D := (dC, dI)) (cl := vwCl) (C := RX0) (T := TX0) (N := 3) (ci := 0) (k := 1) hx hb hts hinX0 hown hK hG (zk_b h_b2) (by decide) rfl (by decide) rfl (hts (.fieldLink RX0 20 "Steamfield$Block" "volume" "I") (by decide +kernel)) (fun _ h9 => h9) dX0_copyFrom_13 ?_
  refine lv_topi (fun x2 ex2 => ?_)
  refine zp_i (D := (dC, dI)) (cl := vwCl) (C := RX0) (T := TX0) (N := 3) (ci := 0) (k := 1) (ty := .int) hx hb hts hinX0 tyX0 tyX0_ok nmX0 hown hK hH hI hS (fun _ h => h) (zk_b h_b) (by decide) rfl (by decide) rfl (hts (.fieldLink RX0 20 "Steamfield$Block" "volume" "I") (by decide +kernel)) (fun _ h9 => h9) rfl (by decide +kernel) rfl rfl dX0_copyFrom_16 (fun H locs hH oq hS => ?_)
  have hG := hG.kept (fun j hj => oq _ (fun z => hX _ _ (show zk (20 + b) < 200 by rw [(zk_b h_b)]; decide) hj z.symm))
  obtain ⟨M3, hM3⟩ : ∃ z : zM, z = zu M1 (20 + b) 1 x2 := ⟨_, rfl⟩
  rw [← hM3] at hH
  refine lv_aload_n hx hb dX0_copyFrom_19 rfl (lv_at hl 0 rfl) ?_
  refine lv_aload_n hx hb dX0_copyFrom_20 rfl (lv_at hl 1 rfl) ?_
  refine z_gi (D := (dC, dI)) (cl := vwCl) (C := RX0) (T := TX0) (N := 3) (ci := 0) (k := 2) hx hb hts hinX0 hown hK hG (zk_b h_b2) (by decide) rfl (by decide) rfl (hts (.fieldLink RX0 24 "Steamfield$Block" "owner" "I") (by decide +kernel)) (fun _ h9 => h9) dX0_copyFrom_21 ?_
  refine lv_topi (fun x4 ex4 => ?_)
  refine zp_i (D := (dC, dI)) (cl := vwCl) (C := RX0) (T := TX0) (N := 3) (ci := 0) (k := 2) (ty := .int) hx hb hts hinX0 tyX0 tyX0_ok nmX0 hown hK hH hI hS (fun _ h => h) (zk_b h_b) (by decide) rfl (by decide) rfl (hts (.fieldLink RX0 24 "Steamfield$Block" "owner" "I") (by decide +kernel)) (fun _ h9 => h9) rfl (by decide +kernel) rfl rfl dX0_copyFrom_24 (fun H locs hH oq hS => ?_)
  have hG := hG.kept (fun j hj => oq _ (fun z => hX _ _ (show zk (20 + b) < 200 by rw [(zk_b h_b)]; decide) hj z.symm))
  obtain ⟨M5, hM5⟩ : ∃ z : zM, z = zu M3 (20 + b) 2 x4 := ⟨_, rfl⟩
  rw [← hM5] at hH
  have hF : zW dC dI ca ad (fX0_copyFrom M N b b2) H := by
    have e9 : M5 = fX0_copyFrom M N b b2 := by subst hM5; subst ex4; subst hM3; subst ex2; subst hM1; rfl
    rw [← e9]; exact hH
  exact W.vret hx hb hr (fun t ht hW => ⟨⟨(), rfl, trivial, z_to (B := fun H => zW dC dI ca ad (fX0_copyFrom M N b b2) H ∧ zW dC dI ca ad2 N H) ht ⟨hF, hG⟩⟩, hS.F ht⟩) hS.2.2 dX0_copyFrom_27

def fX2_copyFrom (M : zM) (N : zM) (f : Nat) (f2 : Nat) : zM :=
  let x1 := N (40 + f2) 0
  let M2 := zu M (40 + f) 0 x1
  let x3 := N (40 + f2) 1
  let M4 := zu M2 (40 + f) 1 x3
  let x5 := N (40 + f2) 2
  let M6 := zu M4 (40 + f) 2 x5
  let x7 := N (40 + f2) 3
  let M8 := zu M6 (40 + f) 3 x7
  M8
set_option maxHeartbeats 4000000 in
set_option maxRecDepth 100000 in
theorem m_X2_copyFrom (l : Launch) (dC : Nat → ClassId) (dI : Nat → Nat → Nat) (ca : Nat → ClassId) (ad : Nat → Nat) (hI : z_I zd ad) (ad2 : Nat → Nat) (hI2 : z_I zd ad2) (hX : ∀ i j, zk i < 200 → zk j < 200 → ad i ≠ ad2 j) (M : zM) (N : zM) (f : Nat) (h_f : f < 12) (f2 : Nat) (h_f2 : f2 < 12) : Met l yX2_copyFrom wsX2_copyFrom ({ frames := 0, cells := 0, slots := 0, locals := 0 }) (z_Pc (dC, dI) vwCl (zt ca) zw_nest [.ref (ad (40 + f)), .ref (ad2 (40 + f2))] (fun H => zW dC dI ca ad M H ∧ zW dC dI ca ad2 N H)) (z_Qv (fun H => zW dC dI ca ad (fX2_copyFrom M N f f2) H ∧ zW dC dI ca ad2 N H) (z_A zd ad)) 0 0 (z_A zd ad) := by
  refine Met.ofW (cc := cX2_copyFrom) (maxL := 2) (ret := none) (by decide) rfl ?_
  intro p e s m args below meth c s₁ B hml hv
  obtain ⟨rfl, ⟨hH, hG⟩, hK, hN⟩ := hv
  have hx := B.exec
  have hb := B.bytes
  have hr := B.returns
  have hts := atoms_spec (ws := wsX2_copyFrom) B.pre
  have hown : s.vm.findClass RX2 = some m.cls := findClass_of_methodNamed B.named
  have hlocks := B.notSynchronized
  have hS : va_S (z_A zd ad) s.heap s.heap [] := va_S.rf
  have hH : z_H (dC, dI) vwCl zf ca zd ad M s.heap := hH
  have hG : z_H (dC, dI) vwCl zf ca zd ad2 N s.heap := hG
  have hinX2 : ∀ w ∈ u_ws RX2 TX2 4, w ∈ wsX2_copyFrom := by decide +kernel
  have hl := lv_entry ([.ref (ad (40 + f)), .ref (ad2 (40 + f2))]) (n := 2) (Nat.le_of_ble_eq_true rfl)
  rw [lg_entry_eq]
  generalize (lg_sl ([.ref (ad (40 + f)), .ref (ad2 (40 + f2))]) ++ List.replicate (2 - (lg_sl ([.ref (ad (40 + f)), .ref (ad2 (40 + f2))])).length) Slot.unset).toArray = ls at hl ⊢
  have hl : lv_has ls 2 [(0, .ref (ad (40 + f))), (1, .ref (ad2 (40 + f2)))] := hl
  refine lv_aload_n hx hb dX2_copyFrom_0 rfl (lv_at hl 0 rfl) ?_
  refine lv_aload_n hx hb dX2_copyFrom_1 rfl (lv_at hl 1 rfl) ?_
  refine z_gi (D := (dC, dI)) (cl := vwCl) (C := RX2) (T := TX2) (N := 4) (ci := 2) (k := 0) hx hb hts hinX2 hown hK hG (zk_f h_f2) (by decide) rfl (by decide) rfl (hts (.fieldLink RX2 7 "Steamfield$Face" "one" "I") (by decide +kernel)) (fun _ h9 => h9) dX2_copyFrom_2 ?_
  refine lv_topi (fun x1 ex1 => ?_)
  refine zp_i (D := (dC, dI)) (cl := vwCl) (C := RX2) (T := TX2) (N := 4) (ci := 2) (k := 0) (ty := .int) hx hb hts hinX2 tyX2 tyX2_ok nmX2 hown hK hH hI hS (fun _ h => h) (zk_f h_f) (by decide) rfl (by decide) rfl (hts (.fieldLink RX2 7 "Steamfield$Face" "one" "I") (by decide +kernel)) (fun _ h9 => h9) rfl (by decide +kernel) rfl rfl dX2_copyFrom_5 (fun H locs hH oq hS => ?_)
  have hG := hG.kept (fun j hj => oq _ (fun z => hX _ _ (show zk (40 + f) < 200 by rw [(zk_f h_f)]; decide) hj z.symm))
  obtain ⟨M2, hM2⟩ : ∃ z : zM, z = zu M (40 + f) 0 x1 := ⟨_, rfl⟩
  rw [← hM2] at hH
  refine lv_aload_n hx hb dX2_copyFrom_8 rfl (lv_at hl 0 rfl) ?_
  refine lv_aload_n hx hb dX2_copyFrom_9 rfl (lv_at hl 1 rfl) ?_
  refine z_gi (D := (dC, dI)) (cl := vwCl) (C := RX2) (T := TX2) (N := 4) (ci := 2) (k := 1) hx hb hts hinX2 hown hK hG (zk_f h_f2) (by decide) rfl (by decide) rfl (hts (.fieldLink RX2 13 "Steamfield$Face" "other" "I") (by decide +kernel)) (fun _ h9 => h9) dX2_copyFrom_10 ?_
  refine lv_topi (fun x3 ex3 => ?_)
  refine zp_i (D := (dC, dI)) (cl := vwCl) (C := RX2) (T := TX2) (N := 4) (ci := 2) (k := 1) (ty := .int) hx hb hts hinX2 tyX2 tyX2_ok nmX2 hown hK hH hI hS (fun _ h => h) (zk_f h_f) (by decide) rfl (by decide) rfl (hts (.fieldLink RX2 13 "Steamfield$Face" "other" "I") (by decide +kernel)) (fun _ h9 => h9) rfl (by decide +kernel) rfl rfl dX2_copyFrom_13 (fun H locs hH oq hS => ?_)
  have hG := hG.kept (fun j hj => oq _ (fun z => hX _ _ (show zk (40 + f) < 200 by rw [(zk_f h_f)]; decide) hj z.symm))
  obtain ⟨M4, hM4⟩ : ∃ z : zM, z = zu M2 (40 + f) 1 x3 := ⟨_, rfl⟩
  rw [← hM4] at hH
  refine lv_aload_n hx hb dX2_copyFrom_16 rfl (lv_at hl 0 rfl) ?_
  refine lv_aload_n hx hb dX2_copyFrom_17 rfl (lv_at hl 1 rfl) ?_
  refine z_gi (D := (dC, dI)) (cl := vwCl) (C := RX2) (T := TX2) (N := 4) (ci := 2) (k := 2) hx hb hts hinX2 hown hK hG (zk_f h_f2) (by decide) rfl (by decide) rfl (hts (.fieldLink RX2 16 "Steamfield$Face" "open" "I") (by decide +kernel)) (fun _ h9 => h9) dX2_copyFrom_18 ?_
  refine lv_topi (fun x5 ex5 => ?_)
  refine zp_i (D := (dC, dI)) (cl := vwCl) (C := RX2) (T := TX2) (N := 4) (ci := 2) (k := 2) (ty := .int) hx hb hts hinX2 tyX2 tyX2_ok nmX2 hown hK hH hI hS (fun _ h => h) (zk_f h_f) (by decide) rfl (by decide) rfl (hts (.fieldLink RX2 16 "Steamfield$Face" "open" "I") (by decide +kernel)) (fun _ h9 => h9) rfl (by decide +kernel) rfl rfl dX2_copyFrom_21 (fun H locs hH oq hS => ?_)
  have hG := hG.kept (fun j hj => oq _ (fun z => hX _ _ (show zk (40 + f) < 200 by rw [(zk_f h_f)]; decide) hj z.symm))
  obtain ⟨M6, hM6⟩ : ∃ z : zM, z = zu M4 (40 + f) 2 x5 := ⟨_, rfl⟩
  rw [← hM6] at hH
  refine lv_aload_n hx hb dX2_copyFrom_24 rfl (lv_at hl 0 rfl) ?_
  refine lv_aload_n hx hb dX2_copyFrom_25 rfl (lv_at hl 1 rfl) ?_
  refine z_gi (D := (dC, dI)) (cl := vwCl) (C := RX2) (T := TX2) (N := 4) (ci := 2) (k := 3) hx hb hts hinX2 hown hK hG (zk_f h_f2) (by decide) rfl (by decide) rfl (hts (.fieldLink RX2 19 "Steamfield$Face" "flow" "I") (by decide +kernel)) (fun _ h9 => h9) dX2_copyFrom_26 ?_
  refine lv_topi (fun x7 ex7 => ?_)
  refine zp_i (D := (dC, dI)) (cl := vwCl) (C := RX2) (T := TX2) (N := 4) (ci := 2) (k := 3) (ty := .int) hx hb hts hinX2 tyX2 tyX2_ok nmX2 hown hK hH hI hS (fun _ h => h) (zk_f h_f) (by decide) rfl (by decide) rfl (hts (.fieldLink RX2 19 "Steamfield$Face" "flow" "I") (by decide +kernel)) (fun _ h9 => h9) rfl (by decide +kernel) rfl rfl dX2_copyFrom_29 (fun H locs hH oq hS => ?_)
  have hG := hG.kept (fun j hj => oq _ (fun z => hX _ _ (show zk (40 + f) < 200 by rw [(zk_f h_f)]; decide) hj z.symm))
  obtain ⟨M8, hM8⟩ : ∃ z : zM, z = zu M6 (40 + f) 3 x7 := ⟨_, rfl⟩
  rw [← hM8] at hH
  have hF : zW dC dI ca ad (fX2_copyFrom M N f f2) H := by
    have e9 : M8 = fX2_copyFrom M N f f2 := by subst hM8; subst ex7; subst hM6; subst ex5; subst hM4; subst ex3; subst hM2; subst ex1; rfl
    rw [← e9]; exact hH
  exact W.vret hx hb hr (fun t ht hW => ⟨⟨(), rfl, trivial, z_to (B := fun H => zW dC dI ca ad (fX2_copyFrom M N f f2) H ∧ zW dC dI ca ad2 N H) ht ⟨hF, hG⟩⟩, hS.F ht⟩) hS.2.2 dX2_copyFrom_32

def fX7_copyFrom (M : zM) (N : zM) (v : Nat) (v2 : Nat) : zM :=
  let x1 := N (60 + v2) 0
  let M2 := zu M (60 + v) 0 x1
  let x3 := N (60 + v2) 1
  let M4 := zu M2 (60 + v) 1 x3
  let x5 := N (60 + v2) 2
  let M6 := zu M4 (60 + v) 2 x5
  let x7 := N (60 + v2) 3
  let M8 := zu M6 (60 + v) 3 x7
  let x9 := N (60 + v2) 4
  let M10 := zu M8 (60 + v) 4 x9
  let x11 := N (60 + v2) 5
  let M12 := zu M10 (60 + v) 5 x11
  let x13 := N (60 + v2) 6
  let M14 := zu M12 (60 + v) 6 x13
  let x15 := N (60 + v2) 7
  let M16 := zu M14 (60 + v) 7 x15
  let x17 := N (60 + v2) 8
  let M18 := zu M16 (60 + v) 8 x17
  M18
set_option maxHeartbeats 4000000 in
set_option maxRecDepth 100000 in
theorem m_X7_copyFrom (l : Launch) (dC : Nat → ClassId) (dI : Nat → Nat → Nat) (ca : Nat → ClassId) (ad : Nat → Nat) (hI : z_I zd ad) (ad2 : Nat → Nat) (hI2 : z_I zd ad2) (hX : ∀ i j, zk i < 200 → zk j < 200 → ad i ≠ ad2 j) (M : zM) (N : zM) (v : Nat) (h_v : v < 6) (v2 : Nat) (h_v2 : v2 < 6) (h_inj : N (60 + v2) 1 = 0 ∨ N (60 + v2) 1 = 1) : Met l yX7_copyFrom wsX7_copyFrom ({ frames := 0, cells := 0, slots := 0, locals := 0 }) (z_Pc (dC, dI) vwCl (zt ca) zw_nest [.ref (ad (60 + v)), .ref (ad2 (60 + v2))] (fun H => zW dC dI ca ad M H ∧ zW dC dI ca ad2 N H)) (z_Qv (fun H => zW dC dI ca ad (fX7_copyFrom M N v v2) H ∧ zW dC dI ca ad2 N H) (z_A zd ad)) 0 0 (z_A zd ad) := by
  refine Met.ofW (cc := cX7_copyFrom) (maxL := 2) (ret := none) (by decide) rfl ?_
  intro p e s m args below meth c s₁ B hml hv
  obtain ⟨rfl, ⟨hH, hG⟩, hK, hN⟩ := hv
  have hx := B.exec
  have hb := B.bytes
  have hr := B.returns
  have hts := atoms_spec (ws := wsX7_copyFrom) B.pre
  have hown : s.vm.findClass RX7 = some m.cls := findClass_of_methodNamed B.named
  have hlocks := B.notSynchronized
  have hS : va_S (z_A zd ad) s.heap s.heap [] := va_S.rf
  have hH : z_H (dC, dI) vwCl zf ca zd ad M s.heap := hH
  have hG : z_H (dC, dI) vwCl zf ca zd ad2 N s.heap := hG
  have hinX7 : ∀ w ∈ u_ws RX7 TX7 9, w ∈ wsX7_copyFrom := by decide +kernel
  have hl := lv_entry ([.ref (ad (60 + v)), .ref (ad2 (60 + v2))]) (n := 2) (Nat.le_of_ble_eq_true rfl)
  rw [lg_entry_eq]
  generalize (lg_sl ([.ref (ad (60 + v)), .ref (ad2 (60 + v2))]) ++ List.replicate (2 - (lg_sl ([.ref (ad (60 + v)), .ref (ad2 (60 + v2))])).length) Slot.unset).toArray = ls at hl ⊢
  have hl : lv_has ls 2 [(0, .ref (ad (60 + v))), (1, .ref (ad2 (60 + v2)))] := hl
  refine lv_aload_n hx hb dX7_copyFrom_0 rfl (lv_at hl 0 rfl) ?_
  refine lv_aload_n hx hb dX7_copyFrom_1 rfl (lv_at hl 1 rfl) ?_
  refine z_gi (D := (dC, dI)) (cl := vwCl) (C := RX7) (T := TX7) (N := 9) (ci := 7) (k := 0) hx hb hts hinX7 hown hK hG (zk_v h_v2) (by decide) rfl (by decide) rfl (hts (.fieldLink RX7 9 "Steamfield$Well" "block" "I") (by decide +kernel)) (fun _ h9 => h9) dX7_copyFrom_2 ?_
  refine lv_topi (fun x1 ex1 => ?_)
  refine zp_i (D := (dC, dI)) (cl := vwCl) (C := RX7) (T := TX7) (N := 9) (ci := 7) (k := 0) (ty := .int) hx hb hts hinX7 tyX7 tyX7_ok nmX7 hown hK hH hI hS (fun _ h => h) (zk_v h_v) (by decide) rfl (by decide) rfl (hts (.fieldLink RX7 9 "Steamfield$Well" "block" "I") (by decide +kernel)) (fun _ h9 => h9) rfl (by decide +kernel) rfl rfl dX7_copyFrom_5 (fun H locs hH oq hS => ?_)
  have hG := hG.kept (fun j hj => oq _ (fun z => hX _ _ (show zk (60 + v) < 200 by rw [(zk_v h_v)]; decide) hj z.symm))
  obtain ⟨M2, hM2⟩ : ∃ z : zM, z = zu M (60 + v) 0 x1 := ⟨_, rfl⟩
  rw [← hM2] at hH
  refine lv_aload_n hx hb dX7_copyFrom_8 rfl (lv_at hl 0 rfl) ?_
  refine lv_aload_n hx hb dX7_copyFrom_9 rfl (lv_at hl 1 rfl) ?_
  refine z_gi (D := (dC, dI)) (cl := vwCl) (C := RX7) (T := TX7) (N := 9) (ci := 7) (k := 1) hx hb hts hinX7 hown hK hG (zk_v h_v2) (by decide) rfl (by decide) rfl (hts (.fieldLink RX7 15 "Steamfield$Well" "isInjector" "Z") (by decide +kernel)) (fun _ h9 => h9) dX7_copyFrom_10 ?_
  refine lv_topi (fun x3 ex3 => ?_)
  refine zp_i (D := (dC, dI)) (cl := vwCl) (C := RX7) (T := TX7) (N := 9) (ci := 7) (k := 1) (ty := .boolean) hx hb hts hinX7 tyX7 tyX7_ok nmX7 hown hK hH hI hS (fun _ h => h) (zk_v h_v) (by decide) rfl (by decide) rfl (hts (.fieldLink RX7 15 "Steamfield$Well" "isInjector" "Z") (by decide +kernel)) (fun _ h9 => h9) rfl (by decide +kernel) (z_bn (by rw [ex3]; exact h_inj)) (z_bf (by rw [ex3]; exact h_inj)) dX7_copyFrom_13 (fun H locs hH oq hS => ?_)
  have hG := hG.kept (fun j hj => oq _ (fun z => hX _ _ (show zk (60 + v) < 200 by rw [(zk_v h_v)]; decide) hj z.symm))
  obtain ⟨M4, hM4⟩ : ∃ z : zM, z = zu M2 (60 + v) 1 x3 := ⟨_, rfl⟩
  rw [← hM4] at hH
  refine lv_aload_n hx hb dX7_copyFrom_16 rfl (lv_at hl 0 rfl) ?_
  refine lv_aload_n hx hb dX7_copyFrom_17 rfl (lv_at hl 1 rfl) ?_
  refine z_gi (D := (dC, dI)) (cl := vwCl) (C := RX7) (T := TX7) (N := 9) (ci := 7) (k := 2) hx hb hts hinX7 hown hK hG (zk_v h_v2) (by decide) rfl (by decide) rfl (hts (.fieldLink RX7 19 "Steamfield$Well" "valve" "I") (by decide +kernel)) (fun _ h9 => h9) dX7_copyFrom_18 ?_
  refine lv_topi (fun x5 ex5 => ?_)
  refine zp_i (D := (dC, dI)) (cl := vwCl) (C := RX7) (T := TX7) (N := 9) (ci := 7) (k := 2) (ty := .int) hx hb hts hinX7 tyX7 tyX7_ok nmX7 hown hK hH hI hS (fun _ h => h) (zk_v h_v) (by decide) rfl (by decide) rfl (hts (.fieldLink RX7 19 "Steamfield$Well" "valve" "I") (by decide +kernel)) (fun _ h9 => h9) rfl (by decide +kernel) rfl rfl dX7_copyFrom_21 (fun H locs hH oq hS => ?_)
  have hG := hG.kept (fun j hj => oq _ (fun z => hX _ _ (show zk (60 + v) < 200 by rw [(zk_v h_v)]; decide) hj z.symm))
  obtain ⟨M6, hM6⟩ : ∃ z : zM, z = zu M4 (60 + v) 2 x5 := ⟨_, rfl⟩
  rw [← hM6] at hH
  refine lv_aload_n hx hb dX7_copyFrom_24 rfl (lv_at hl 0 rfl) ?_
  refine lv_aload_n hx hb dX7_copyFrom_25 rfl (lv_at hl 1 rfl) ?_
  refine z_gi (D := (dC, dI)) (cl := vwCl) (C := RX7) (T := TX7) (N := 9) (ci := 7) (k := 3) hx hb hts hinX7 hown hK hG (zk_v h_v2) (by decide) rfl (by decide) rfl (hts (.fieldLink RX7 22 "Steamfield$Well" "scale" "I") (by decide +kernel)) (fun _ h9 => h9) dX7_copyFrom_26 ?_
  refine lv_topi (fun x7 ex7 => ?_)
  refine zp_i (D := (dC, dI)) (cl := vwCl) (C := RX7) (T := TX7) (N := 9) (ci := 7) (k := 3) (ty := .int) hx hb hts hinX7 tyX7 tyX7_ok nmX7 hown hK hH hI hS (fun _ h => h) (zk_v h_v) (by decide) rfl (by decide) rfl (hts (.fieldLink RX7 22 "Steamfield$Well" "scale" "I") (by decide +kernel)) (fun _ h9 => h9) rfl (by decide +kernel) rfl rfl dX7_copyFrom_29 (fun H locs hH oq hS => ?_)
  have hG := hG.kept (fun j hj => oq _ (fun z => hX _ _ (show zk (60 + v) < 200 by rw [(zk_v h_v)]; decide) hj z.symm))
  obtain ⟨M8, hM8⟩ : ∃ z : zM, z = zu M6 (60 + v) 3 x7 := ⟨_, rfl⟩
  rw [← hM8] at hH
  refine lv_aload_n hx hb dX7_copyFrom_32 rfl (lv_at hl 0 rfl) ?_
  refine lv_aload_n hx hb dX7_copyFrom_33 rfl (lv_at hl 1 rfl) ?_
  refine z_gi (D := (dC, dI)) (cl := vwCl) (C := RX7) (T := TX7) (N := 9) (ci := 7) (k := 4) hx hb hts hinX7 hown hK hG (zk_v h_v2) (by decide) rfl (by decide) rfl (hts (.fieldLink RX7 25 "Steamfield$Well" "crust" "I") (by decide +kernel)) (fun _ h9 => h9) dX7_copyFrom_34 ?_
  refine lv_topi (fun x9 ex9 => ?_)
  refine zp_i (D := (dC, dI)) (cl := vwCl) (C := RX7) (T := TX7) (N := 9) (ci := 7) (k := 4) (ty := .int) hx hb hts hinX7 tyX7 tyX7_ok nmX7 hown hK hH hI hS (fun _ h => h) (zk_v h_v) (by decide) rfl (by decide) rfl (hts (.fieldLink RX7 25 "Steamfield$Well" "crust" "I") (by decide +kernel)) (fun _ h9 => h9) rfl (by decide +kernel) rfl rfl dX7_copyFrom_37 (fun H locs hH oq hS => ?_)
  have hG := hG.kept (fun j hj => oq _ (fun z => hX _ _ (show zk (60 + v) < 200 by rw [(zk_v h_v)]; decide) hj z.symm))
  obtain ⟨M10, hM10⟩ : ∃ z : zM, z = zu M8 (60 + v) 4 x9 := ⟨_, rfl⟩
  rw [← hM10] at hH
  refine lv_aload_n hx hb dX7_copyFrom_40 rfl (lv_at hl 0 rfl) ?_
  refine lv_aload_n hx hb dX7_copyFrom_41 rfl (lv_at hl 1 rfl) ?_
  refine z_gi (D := (dC, dI)) (cl := vwCl) (C := RX7) (T := TX7) (N := 9) (ci := 7) (k := 5) hx hb hts hinX7 hown hK hG (zk_v h_v2) (by decide) rfl (by decide) rfl (hts (.fieldLink RX7 28 "Steamfield$Well" "flow" "I") (by decide +kernel)) (fun _ h9 => h9) dX7_copyFrom_42 ?_
  refine lv_topi (fun x11 ex11 => ?_)
  refine zp_i (D := (dC, dI)) (cl := vwCl) (C := RX7) (T := TX7) (N := 9) (ci := 7) (k := 5) (ty := .int) hx hb hts hinX7 tyX7 tyX7_ok nmX7 hown hK hH hI hS (fun _ h => h) (zk_v h_v) (by decide) rfl (by decide) rfl (hts (.fieldLink RX7 28 "Steamfield$Well" "flow" "I") (by decide +kernel)) (fun _ h9 => h9) rfl (by decide +kernel) rfl rfl dX7_copyFrom_45 (fun H locs hH oq hS => ?_)
  have hG := hG.kept (fun j hj => oq _ (fun z => hX _ _ (show zk (60 + v) < 200 by rw [(zk_v h_v)]; decide) hj z.symm))
  obtain ⟨M12, hM12⟩ : ∃ z : zM, z = zu M10 (60 + v) 5 x11 := ⟨_, rfl⟩
  rw [← hM12] at hH
  refine lv_aload_n hx hb dX7_copyFrom_48 rfl (lv_at hl 0 rfl) ?_
  refine lv_aload_n hx hb dX7_copyFrom_49 rfl (lv_at hl 1 rfl) ?_
  refine z_gi (D := (dC, dI)) (cl := vwCl) (C := RX7) (T := TX7) (N := 9) (ci := 7) (k := 6) hx hb hts hinX7 hown hK hG (zk_v h_v2) (by decide) rfl (by decide) rfl (hts (.fieldLink RX7 31 "Steamfield$Well" "steam" "I") (by decide +kernel)) (fun _ h9 => h9) dX7_copyFrom_50 ?_
  refine lv_topi (fun x13 ex13 => ?_)
  refine zp_i (D := (dC, dI)) (cl := vwCl) (C := RX7) (T := TX7) (N := 9) (ci := 7) (k := 6) (ty := .int) hx hb hts hinX7 tyX7 tyX7_ok nmX7 hown hK hH hI hS (fun _ h => h) (zk_v h_v) (by decide) rfl (by decide) rfl (hts (.fieldLink RX7 31 "Steamfield$Well" "steam" "I") (by decide +kernel)) (fun _ h9 => h9) rfl (by decide +kernel) rfl rfl dX7_copyFrom_53 (fun H locs hH oq hS => ?_)
  have hG := hG.kept (fun j hj => oq _ (fun z => hX _ _ (show zk (60 + v) < 200 by rw [(zk_v h_v)]; decide) hj z.symm))
  obtain ⟨M14, hM14⟩ : ∃ z : zM, z = zu M12 (60 + v) 6 x13 := ⟨_, rfl⟩
  rw [← hM14] at hH
  refine lv_aload_n hx hb dX7_copyFrom_56 rfl (lv_at hl 0 rfl) ?_
  refine lv_aload_n hx hb dX7_copyFrom_57 rfl (lv_at hl 1 rfl) ?_
  refine z_gi (D := (dC, dI)) (cl := vwCl) (C := RX7) (T := TX7) (N := 9) (ci := 7) (k := 7) hx hb hts hinX7 hown hK hG (zk_v h_v2) (by decide) rfl (by decide) rfl (hts (.fieldLink RX7 34 "Steamfield$Well" "tracer" "I") (by decide +kernel)) (fun _ h9 => h9) dX7_copyFrom_58 ?_
  refine lv_topi (fun x15 ex15 => ?_)
  refine zp_i (D := (dC, dI)) (cl := vwCl) (C := RX7) (T := TX7) (N := 9) (ci := 7) (k := 7) (ty := .int) hx hb hts hinX7 tyX7 tyX7_ok nmX7 hown hK hH hI hS (fun _ h => h) (zk_v h_v) (by decide) rfl (by decide) rfl (hts (.fieldLink RX7 34 "Steamfield$Well" "tracer" "I") (by decide +kernel)) (fun _ h9 => h9) rfl (by decide +kernel) rfl rfl dX7_copyFrom_61 (fun H locs hH oq hS => ?_)
  have hG := hG.kept (fun j hj => oq _ (fun z => hX _ _ (show zk (60 + v) < 200 by rw [(zk_v h_v)]; decide) hj z.symm))
  obtain ⟨M16, hM16⟩ : ∃ z : zM, z = zu M14 (60 + v) 7 x15 := ⟨_, rfl⟩
  rw [← hM16] at hH
  refine lv_aload_n hx hb dX7_copyFrom_64 rfl (lv_at hl 0 rfl) ?_
  refine lv_aload_n hx hb dX7_copyFrom_65 rfl (lv_at hl 1 rfl) ?_
  refine z_gi (D := (dC, dI)) (cl := vwCl) (C := RX7) (T := TX7) (N := 9) (ci := 7) (k := 8) hx hb hts hinX7 hown hK hG (zk_v h_v2) (by decide) rfl (by decide) rfl (hts (.fieldLink RX7 37 "Steamfield$Well" "flowEver" "I") (by decide +kernel)) (fun _ h9 => h9) dX7_copyFrom_66 ?_
  refine lv_topi (fun x17 ex17 => ?_)
  refine zp_i (D := (dC, dI)) (cl := vwCl) (C := RX7) (T := TX7) (N := 9) (ci := 7) (k := 8) (ty := .int) hx hb hts hinX7 tyX7 tyX7_ok nmX7 hown hK hH hI hS (fun _ h => h) (zk_v h_v) (by decide) rfl (by decide) rfl (hts (.fieldLink RX7 37 "Steamfield$Well" "flowEver" "I") (by decide +kernel)) (fun _ h9 => h9) rfl (by decide +kernel) rfl rfl dX7_copyFrom_69 (fun H locs hH oq hS => ?_)
  have hG := hG.kept (fun j hj => oq _ (fun z => hX _ _ (show zk (60 + v) < 200 by rw [(zk_v h_v)]; decide) hj z.symm))
  obtain ⟨M18, hM18⟩ : ∃ z : zM, z = zu M16 (60 + v) 8 x17 := ⟨_, rfl⟩
  rw [← hM18] at hH
  have hF : zW dC dI ca ad (fX7_copyFrom M N v v2) H := by
    have e9 : M18 = fX7_copyFrom M N v v2 := by subst hM18; subst ex17; subst hM16; subst ex15; subst hM14; subst ex13; subst hM12; subst ex11; subst hM10; subst ex9; subst hM8; subst ex7; subst hM6; subst ex5; subst hM4; subst ex3; subst hM2; subst ex1; rfl
    rw [← e9]; exact hH
  exact W.vret hx hb hr (fun t ht hW => ⟨⟨(), rfl, trivial, z_to (B := fun H => zW dC dI ca ad (fX7_copyFrom M N v v2) H ∧ zW dC dI ca ad2 N H) ht ⟨hF, hG⟩⟩, hS.F ht⟩) hS.2.2 dX7_copyFrom_72

def fX5_copyFrom (M : zM) (N : zM) (s0 : Nat) (s2 : Nat) : zM :=
  let x1 := N (70 + s2) 0
  let M2 := zu M (70 + s0) 0 x1
  let x3 := N (70 + s2) 1
  let M4 := zu M2 (70 + s0) 1 x3
  let x5 := N (70 + s2) 2
  let M6 := zu M4 (70 + s0) 2 x5
  let x7 := N (70 + s2) 3
  let M8 := zu M6 (70 + s0) 3 x7
  let x9 := N (70 + s2) 4
  let M10 := zu M8 (70 + s0) 4 x9
  let x11 := N (70 + s2) 5
  let M12 := zu M10 (70 + s0) 5 x11
  let x13 := N (70 + s2) 6
  let M14 := zu M12 (70 + s0) 6 x13
  M14
set_option maxHeartbeats 4000000 in
set_option maxRecDepth 100000 in
theorem m_X5_copyFrom (l : Launch) (dC : Nat → ClassId) (dI : Nat → Nat → Nat) (ca : Nat → ClassId) (ad : Nat → Nat) (hI : z_I zd ad) (ad2 : Nat → Nat) (hI2 : z_I zd ad2) (hX : ∀ i j, zk i < 200 → zk j < 200 → ad i ≠ ad2 j) (M : zM) (N : zM) (s0 : Nat) (h_s0 : s0 < 3) (s2 : Nat) (h_s2 : s2 < 3) : Met l yX5_copyFrom wsX5_copyFrom ({ frames := 0, cells := 0, slots := 0, locals := 0 }) (z_Pc (dC, dI) vwCl (zt ca) zw_nest [.ref (ad (70 + s0)), .ref (ad2 (70 + s2))] (fun H => zW dC dI ca ad M H ∧ zW dC dI ca ad2 N H)) (z_Qv (fun H => zW dC dI ca ad (fX5_copyFrom M N s0 s2) H ∧ zW dC dI ca ad2 N H) (z_A zd ad)) 0 0 (z_A zd ad) := by
  refine Met.ofW (cc := cX5_copyFrom) (maxL := 2) (ret := none) (by decide) rfl ?_
  intro p e s m args below meth c s₁ B hml hv
  obtain ⟨rfl, ⟨hH, hG⟩, hK, hN⟩ := hv
  have hx := B.exec
  have hb := B.bytes
  have hr := B.returns
  have hts := atoms_spec (ws := wsX5_copyFrom) B.pre
  have hown : s.vm.findClass RX5 = some m.cls := findClass_of_methodNamed B.named
  have hlocks := B.notSynchronized
  have hS : va_S (z_A zd ad) s.heap s.heap [] := va_S.rf
  have hH : z_H (dC, dI) vwCl zf ca zd ad M s.heap := hH
  have hG : z_H (dC, dI) vwCl zf ca zd ad2 N s.heap := hG
  have hinX5 : ∀ w ∈ u_ws RX5 TX5 7, w ∈ wsX5_copyFrom := by decide +kernel
  have hl := lv_entry ([.ref (ad (70 + s0)), .ref (ad2 (70 + s2))]) (n := 2) (Nat.le_of_ble_eq_true rfl)
  rw [lg_entry_eq]
  generalize (lg_sl ([.ref (ad (70 + s0)), .ref (ad2 (70 + s2))]) ++ List.replicate (2 - (lg_sl ([.ref (ad (70 + s0)), .ref (ad2 (70 + s2))])).length) Slot.unset).toArray = ls at hl ⊢
  have hl : lv_has ls 2 [(0, .ref (ad (70 + s0))), (1, .ref (ad2 (70 + s2)))] := hl
  refine lv_aload_n hx hb dX5_copyFrom_0 rfl (lv_at hl 0 rfl) ?_
  refine lv_aload_n hx hb dX5_copyFrom_1 rfl (lv_at hl 1 rfl) ?_
  refine z_gi (D := (dC, dI)) (cl := vwCl) (C := RX5) (T := TX5) (N := 7) (ci := 5) (k := 0) hx hb hts hinX5 hown hK hG (zk_s h_s2) (by decide) rfl (by decide) rfl (hts (.fieldLink RX5 7 "Steamfield$Spring" "block" "I") (by decide +kernel)) (fun _ h9 => h9) dX5_copyFrom_2 ?_
  refine lv_topi (fun x1 ex1 => ?_)
  refine zp_i (D := (dC, dI)) (cl := vwCl) (C := RX5) (T := TX5) (N := 7) (ci := 5) (k := 0) (ty := .int) hx hb hts hinX5 tyX5 tyX5_ok nmX5 hown hK hH hI hS (fun _ h => h) (zk_s h_s0) (by decide) rfl (by decide) rfl (hts (.fieldLink RX5 7 "Steamfield$Spring" "block" "I") (by decide +kernel)) (fun _ h9 => h9) rfl (by decide +kernel) rfl rfl dX5_copyFrom_5 (fun H locs hH oq hS => ?_)
  have hG := hG.kept (fun j hj => oq _ (fun z => hX _ _ (show zk (70 + s0) < 200 by rw [(zk_s h_s0)]; decide) hj z.symm))
  obtain ⟨M2, hM2⟩ : ∃ z : zM, z = zu M (70 + s0) 0 x1 := ⟨_, rfl⟩
  rw [← hM2] at hH
  refine lv_aload_n hx hb dX5_copyFrom_8 rfl (lv_at hl 0 rfl) ?_
  refine lv_aload_n hx hb dX5_copyFrom_9 rfl (lv_at hl 1 rfl) ?_
  refine z_gi (D := (dC, dI)) (cl := vwCl) (C := RX5) (T := TX5) (N := 7) (ci := 5) (k := 1) hx hb hts hinX5 hown hK hG (zk_s h_s2) (by decide) rfl (by decide) rfl (hts (.fieldLink RX5 13 "Steamfield$Spring" "level" "I") (by decide +kernel)) (fun _ h9 => h9) dX5_copyFrom_10 ?_
  refine lv_topi (fun x3 ex3 => ?_)
  refine zp_i (D := (dC, dI)) (cl := vwCl) (C := RX5) (T := TX5) (N := 7) (ci := 5) (k := 1) (ty := .int) hx hb hts hinX5 tyX5 tyX5_ok nmX5 hown hK hH hI hS (fun _ h => h) (zk_s h_s0) (by decide) rfl (by decide) rfl (hts (.fieldLink RX5 13 "Steamfield$Spring" "level" "I") (by decide +kernel)) (fun _ h9 => h9) rfl (by decide +kernel) rfl rfl dX5_copyFrom_13 (fun H locs hH oq hS => ?_)
  have hG := hG.kept (fun j hj => oq _ (fun z => hX _ _ (show zk (70 + s0) < 200 by rw [(zk_s h_s0)]; decide) hj z.symm))
  obtain ⟨M4, hM4⟩ : ∃ z : zM, z = zu M2 (70 + s0) 1 x3 := ⟨_, rfl⟩
  rw [← hM4] at hH
  refine lv_aload_n hx hb dX5_copyFrom_16 rfl (lv_at hl 0 rfl) ?_
  refine lv_aload_n hx hb dX5_copyFrom_17 rfl (lv_at hl 1 rfl) ?_
  refine z_gi (D := (dC, dI)) (cl := vwCl) (C := RX5) (T := TX5) (N := 7) (ci := 5) (k := 2) hx hb hts hinX5 hown hK hG (zk_s h_s2) (by decide) rfl (by decide) rfl (hts (.fieldLink RX5 16 "Steamfield$Spring" "promise" "I") (by decide +kernel)) (fun _ h9 => h9) dX5_copyFrom_18 ?_
  refine lv_topi (fun x5 ex5 => ?_)
  refine zp_i (D := (dC, dI)) (cl := vwCl) (C := RX5) (T := TX5) (N := 7) (ci := 5) (k := 2) (ty := .int) hx hb hts hinX5 tyX5 tyX5_ok nmX5 hown hK hH hI hS (fun _ h => h) (zk_s h_s0) (by decide) rfl (by decide) rfl (hts (.fieldLink RX5 16 "Steamfield$Spring" "promise" "I") (by decide +kernel)) (fun _ h9 => h9) rfl (by decide +kernel) rfl rfl dX5_copyFrom_21 (fun H locs hH oq hS => ?_)
  have hG := hG.kept (fun j hj => oq _ (fun z => hX _ _ (show zk (70 + s0) < 200 by rw [(zk_s h_s0)]; decide) hj z.symm))
  obtain ⟨M6, hM6⟩ : ∃ z : zM, z = zu M4 (70 + s0) 2 x5 := ⟨_, rfl⟩
  rw [← hM6] at hH
  refine lv_aload_n hx hb dX5_copyFrom_24 rfl (lv_at hl 0 rfl) ?_
  refine lv_aload_n hx hb dX5_copyFrom_25 rfl (lv_at hl 1 rfl) ?_
  refine z_gi (D := (dC, dI)) (cl := vwCl) (C := RX5) (T := TX5) (N := 7) (ci := 5) (k := 3) hx hb hts hinX5 hown hK hG (zk_s h_s2) (by decide) rfl (by decide) rfl (hts (.fieldLink RX5 19 "Steamfield$Spring" "flow" "I") (by decide +kernel)) (fun _ h9 => h9) dX5_copyFrom_26 ?_
  refine lv_topi (fun x7 ex7 => ?_)
  refine zp_i (D := (dC, dI)) (cl := vwCl) (C := RX5) (T := TX5) (N := 7) (ci := 5) (k := 3) (ty := .int) hx hb hts hinX5 tyX5 tyX5_ok nmX5 hown hK hH hI hS (fun _ h => h) (zk_s h_s0) (by decide) rfl (by decide) rfl (hts (.fieldLink RX5 19 "Steamfield$Spring" "flow" "I") (by decide +kernel)) (fun _ h9 => h9) rfl (by decide +kernel) rfl rfl dX5_copyFrom_29 (fun H locs hH oq hS => ?_)
  have hG := hG.kept (fun j hj => oq _ (fun z => hX _ _ (show zk (70 + s0) < 200 by rw [(zk_s h_s0)]; decide) hj z.symm))
  obtain ⟨M8, hM8⟩ : ∃ z : zM, z = zu M6 (70 + s0) 3 x7 := ⟨_, rfl⟩
  rw [← hM8] at hH
  refine lv_aload_n hx hb dX5_copyFrom_32 rfl (lv_at hl 0 rfl) ?_
  refine lv_aload_n hx hb dX5_copyFrom_33 rfl (lv_at hl 1 rfl) ?_
  refine z_gi (D := (dC, dI)) (cl := vwCl) (C := RX5) (T := TX5) (N := 7) (ci := 5) (k := 4) hx hb hts hinX5 hown hK hG (zk_s h_s2) (by decide) rfl (by decide) rfl (hts (.fieldLink RX5 22 "Steamfield$Spring" "lacked" "I") (by decide +kernel)) (fun _ h9 => h9) dX5_copyFrom_34 ?_
  refine lv_topi (fun x9 ex9 => ?_)
  refine zp_i (D := (dC, dI)) (cl := vwCl) (C := RX5) (T := TX5) (N := 7) (ci := 5) (k := 4) (ty := .int) hx hb hts hinX5 tyX5 tyX5_ok nmX5 hown hK hH hI hS (fun _ h => h) (zk_s h_s0) (by decide) rfl (by decide) rfl (hts (.fieldLink RX5 22 "Steamfield$Spring" "lacked" "I") (by decide +kernel)) (fun _ h9 => h9) rfl (by decide +kernel) rfl rfl dX5_copyFrom_37 (fun H locs hH oq hS => ?_)
  have hG := hG.kept (fun j hj => oq _ (fun z => hX _ _ (show zk (70 + s0) < 200 by rw [(zk_s h_s0)]; decide) hj z.symm))
  obtain ⟨M10, hM10⟩ : ∃ z : zM, z = zu M8 (70 + s0) 4 x9 := ⟨_, rfl⟩
  rw [← hM10] at hH
  refine lv_aload_n hx hb dX5_copyFrom_40 rfl (lv_at hl 0 rfl) ?_
  refine lv_aload_n hx hb dX5_copyFrom_41 rfl (lv_at hl 1 rfl) ?_
  refine z_gi (D := (dC, dI)) (cl := vwCl) (C := RX5) (T := TX5) (N := 7) (ci := 5) (k := 5) hx hb hts hinX5 hown hK hG (zk_s h_s2) (by decide) rfl (by decide) rfl (hts (.fieldLink RX5 25 "Steamfield$Spring" "flowEver" "I") (by decide +kernel)) (fun _ h9 => h9) dX5_copyFrom_42 ?_
  refine lv_topi (fun x11 ex11 => ?_)
  refine zp_i (D := (dC, dI)) (cl := vwCl) (C := RX5) (T := TX5) (N := 7) (ci := 5) (k := 5) (ty := .int) hx hb hts hinX5 tyX5 tyX5_ok nmX5 hown hK hH hI hS (fun _ h => h) (zk_s h_s0) (by decide) rfl (by decide) rfl (hts (.fieldLink RX5 25 "Steamfield$Spring" "flowEver" "I") (by decide +kernel)) (fun _ h9 => h9) rfl (by decide +kernel) rfl rfl dX5_copyFrom_45 (fun H locs hH oq hS => ?_)
  have hG := hG.kept (fun j hj => oq _ (fun z => hX _ _ (show zk (70 + s0) < 200 by rw [(zk_s h_s0)]; decide) hj z.symm))
  obtain ⟨M12, hM12⟩ : ∃ z : zM, z = zu M10 (70 + s0) 5 x11 := ⟨_, rfl⟩
  rw [← hM12] at hH
  refine lv_aload_n hx hb dX5_copyFrom_48 rfl (lv_at hl 0 rfl) ?_
  refine lv_aload_n hx hb dX5_copyFrom_49 rfl (lv_at hl 1 rfl) ?_
  refine z_gi (D := (dC, dI)) (cl := vwCl) (C := RX5) (T := TX5) (N := 7) (ci := 5) (k := 6) hx hb hts hinX5 hown hK hG (zk_s h_s2) (by decide) rfl (by decide) rfl (hts (.fieldLink RX5 28 "Steamfield$Spring" "lackedEver" "I") (by decide +kernel)) (fun _ h9 => h9) dX5_copyFrom_50 ?_
  refine lv_topi (fun x13 ex13 => ?_)
  refine zp_i (D := (dC, dI)) (cl := vwCl) (C := RX5) (T := TX5) (N := 7) (ci := 5) (k := 6) (ty := .int) hx hb hts hinX5 tyX5 tyX5_ok nmX5 hown hK hH hI hS (fun _ h => h) (zk_s h_s0) (by decide) rfl (by decide) rfl (hts (.fieldLink RX5 28 "Steamfield$Spring" "lackedEver" "I") (by decide +kernel)) (fun _ h9 => h9) rfl (by decide +kernel) rfl rfl dX5_copyFrom_53 (fun H locs hH oq hS => ?_)
  have hG := hG.kept (fun j hj => oq _ (fun z => hX _ _ (show zk (70 + s0) < 200 by rw [(zk_s h_s0)]; decide) hj z.symm))
  obtain ⟨M14, hM14⟩ : ∃ z : zM, z = zu M12 (70 + s0) 6 x13 := ⟨_, rfl⟩
  rw [← hM14] at hH
  have hF : zW dC dI ca ad (fX5_copyFrom M N s0 s2) H := by
    have e9 : M14 = fX5_copyFrom M N s0 s2 := by subst hM14; subst ex13; subst hM12; subst ex11; subst hM10; subst ex9; subst hM8; subst ex7; subst hM6; subst ex5; subst hM4; subst ex3; subst hM2; subst ex1; rfl
    rw [← e9]; exact hH
  exact W.vret hx hb hr (fun t ht hW => ⟨⟨(), rfl, trivial, z_to (B := fun H => zW dC dI ca ad (fX5_copyFrom M N s0 s2) H ∧ zW dC dI ca ad2 N H) ht ⟨hF, hG⟩⟩, hS.F ht⟩) hS.2.2 dX5_copyFrom_56

def fX4_copyFrom (M : zM) (N : zM)  : zM :=
  let x1 := N 6 0
  let M2 := zu M 6 0 x1
  let x3 := N 6 1
  let M4 := zu M2 6 1 x3
  let x5 := N 6 2
  let M6 := zu M4 6 2 x5
  let x7 := N 6 3
  let M8 := zu M6 6 3 x7
  let x9 := N 6 4
  let M10 := zu M8 6 4 x9
  let x11 := N 6 5
  let M12 := zu M10 6 5 x11
  M12
set_option maxHeartbeats 4000000 in
set_option maxRecDepth 100000 in
theorem m_X4_copyFrom (l : Launch) (dC : Nat → ClassId) (dI : Nat → Nat → Nat) (ca : Nat → ClassId) (ad : Nat → Nat) (hI : z_I zd ad) (ad2 : Nat → Nat) (hI2 : z_I zd ad2) (hX : ∀ i j, zk i < 200 → zk j < 200 → ad i ≠ ad2 j) (M : zM) (N : zM) (h_run : N 6 1 = 0 ∨ N 6 1 = 1) : Met l yX4_copyFrom wsX4_copyFrom ({ frames := 0, cells := 0, slots := 0, locals := 0 }) (z_Pc (dC, dI) vwCl (zt ca) zw_nest [.ref (ad 6), .ref (ad2 6)] (fun H => zW dC dI ca ad M H ∧ zW dC dI ca ad2 N H)) (z_Qv (fun H => zW dC dI ca ad (fX4_copyFrom M N ) H ∧ zW dC dI ca ad2 N H) (z_A zd ad)) 0 0 (z_A zd ad) := by
  refine Met.ofW (cc := cX4_copyFrom) (maxL := 2) (ret := none) (by decide) rfl ?_
  intro p e s m args below meth c s₁ B hml hv
  obtain ⟨rfl, ⟨hH, hG⟩, hK, hN⟩ := hv
  have hx := B.exec
  have hb := B.bytes
  have hr := B.returns
  have hts := atoms_spec (ws := wsX4_copyFrom) B.pre
  have hown : s.vm.findClass RX4 = some m.cls := findClass_of_methodNamed B.named
  have hlocks := B.notSynchronized
  have hS : va_S (z_A zd ad) s.heap s.heap [] := va_S.rf
  have hH : z_H (dC, dI) vwCl zf ca zd ad M s.heap := hH
  have hG : z_H (dC, dI) vwCl zf ca zd ad2 N s.heap := hG
  have hinX4 : ∀ w ∈ u_ws RX4 TX4 6, w ∈ wsX4_copyFrom := by decide +kernel
  have hl := lv_entry ([.ref (ad 6), .ref (ad2 6)]) (n := 2) (Nat.le_of_ble_eq_true rfl)
  rw [lg_entry_eq]
  generalize (lg_sl ([.ref (ad 6), .ref (ad2 6)]) ++ List.replicate (2 - (lg_sl ([.ref (ad 6), .ref (ad2 6)])).length) Slot.unset).toArray = ls at hl ⊢
  have hl : lv_has ls 2 [(0, .ref (ad 6)), (1, .ref (ad2 6))] := hl
  refine lv_aload_n hx hb dX4_copyFrom_0 rfl (lv_at hl 0 rfl) ?_
  refine lv_aload_n hx hb dX4_copyFrom_1 rfl (lv_at hl 1 rfl) ?_
  refine z_gi (D := (dC, dI)) (cl := vwCl) (C := RX4) (T := TX4) (N := 6) (ci := 4) (k := 0) hx hb hts hinX4 hown hK hG zk_6 (by decide) rfl (by decide) rfl (hts (.fieldLink RX4 7 "Steamfield$Plant" "size" "I") (by decide +kernel)) (fun _ h9 => h9) dX4_copyFrom_2 ?_
  refine lv_topi (fun x1 ex1 => ?_)
  refine zp_i (D := (dC, dI)) (cl := vwCl) (C := RX4) (T := TX4) (N := 6) (ci := 4) (k := 0) (ty := .int) hx hb hts hinX4 tyX4 tyX4_ok nmX4 hown hK hH hI hS (fun _ h => h) zk_6 (by decide) rfl (by decide) rfl (hts (.fieldLink RX4 7 "Steamfield$Plant" "size" "I") (by decide +kernel)) (fun _ h9 => h9) rfl (by decide +kernel) rfl rfl dX4_copyFrom_5 (fun H locs hH oq hS => ?_)
  have hG := hG.kept (fun j hj => oq _ (fun z => hX _ _ (show zk 6 < 200 by rw [zk_6]; decide) hj z.symm))
  obtain ⟨M2, hM2⟩ : ∃ z : zM, z = zu M 6 0 x1 := ⟨_, rfl⟩
  rw [← hM2] at hH
  refine lv_aload_n hx hb dX4_copyFrom_8 rfl (lv_at hl 0 rfl) ?_
  refine lv_aload_n hx hb dX4_copyFrom_9 rfl (lv_at hl 1 rfl) ?_
  refine z_gi (D := (dC, dI)) (cl := vwCl) (C := RX4) (T := TX4) (N := 6) (ci := 4) (k := 1) hx hb hts hinX4 hown hK hG zk_6 (by decide) rfl (by decide) rfl (hts (.fieldLink RX4 13 "Steamfield$Plant" "isRunning" "Z") (by decide +kernel)) (fun _ h9 => h9) dX4_copyFrom_10 ?_
  refine lv_topi (fun x3 ex3 => ?_)
  refine zp_i (D := (dC, dI)) (cl := vwCl) (C := RX4) (T := TX4) (N := 6) (ci := 4) (k := 1) (ty := .boolean) hx hb hts hinX4 tyX4 tyX4_ok nmX4 hown hK hH hI hS (fun _ h => h) zk_6 (by decide) rfl (by decide) rfl (hts (.fieldLink RX4 13 "Steamfield$Plant" "isRunning" "Z") (by decide +kernel)) (fun _ h9 => h9) rfl (by decide +kernel) (z_bn (by rw [ex3]; exact h_run)) (z_bf (by rw [ex3]; exact h_run)) dX4_copyFrom_13 (fun H locs hH oq hS => ?_)
  have hG := hG.kept (fun j hj => oq _ (fun z => hX _ _ (show zk 6 < 200 by rw [zk_6]; decide) hj z.symm))
  obtain ⟨M4, hM4⟩ : ∃ z : zM, z = zu M2 6 1 x3 := ⟨_, rfl⟩
  rw [← hM4] at hH
  refine lv_aload_n hx hb dX4_copyFrom_16 rfl (lv_at hl 0 rfl) ?_
  refine lv_aload_n hx hb dX4_copyFrom_17 rfl (lv_at hl 1 rfl) ?_
  refine z_gi (D := (dC, dI)) (cl := vwCl) (C := RX4) (T := TX4) (N := 6) (ci := 4) (k := 2) hx hb hts hinX4 hown hK hG zk_6 (by decide) rfl (by decide) rfl (hts (.fieldLink RX4 17 "Steamfield$Plant" "power" "I") (by decide +kernel)) (fun _ h9 => h9) dX4_copyFrom_18 ?_
  refine lv_topi (fun x5 ex5 => ?_)
  refine zp_i (D := (dC, dI)) (cl := vwCl) (C := RX4) (T := TX4) (N := 6) (ci := 4) (k := 2) (ty := .int) hx hb hts hinX4 tyX4 tyX4_ok nmX4 hown hK hH hI hS (fun _ h => h) zk_6 (by decide) rfl (by decide) rfl (hts (.fieldLink RX4 17 "Steamfield$Plant" "power" "I") (by decide +kernel)) (fun _ h9 => h9) rfl (by decide +kernel) rfl rfl dX4_copyFrom_21 (fun H locs hH oq hS => ?_)
  have hG := hG.kept (fun j hj => oq _ (fun z => hX _ _ (show zk 6 < 200 by rw [zk_6]; decide) hj z.symm))
  obtain ⟨M6, hM6⟩ : ∃ z : zM, z = zu M4 6 2 x5 := ⟨_, rfl⟩
  rw [← hM6] at hH
  refine lv_aload_n hx hb dX4_copyFrom_24 rfl (lv_at hl 0 rfl) ?_
  refine lv_aload_n hx hb dX4_copyFrom_25 rfl (lv_at hl 1 rfl) ?_
  refine z_gi (D := (dC, dI)) (cl := vwCl) (C := RX4) (T := TX4) (N := 6) (ci := 4) (k := 3) hx hb hts hinX4 hown hK hG zk_6 (by decide) rfl (by decide) rfl (hts (.fieldLink RX4 20 "Steamfield$Plant" "powerEver" "I") (by decide +kernel)) (fun _ h9 => h9) dX4_copyFrom_26 ?_
  refine lv_topi (fun x7 ex7 => ?_)
  refine zp_i (D := (dC, dI)) (cl := vwCl) (C := RX4) (T := TX4) (N := 6) (ci := 4) (k := 3) (ty := .int) hx hb hts hinX4 tyX4 tyX4_ok nmX4 hown hK hH hI hS (fun _ h => h) zk_6 (by decide) rfl (by decide) rfl (hts (.fieldLink RX4 20 "Steamfield$Plant" "powerEver" "I") (by decide +kernel)) (fun _ h9 => h9) rfl (by decide +kernel) rfl rfl dX4_copyFrom_29 (fun H locs hH oq hS => ?_)
  have hG := hG.kept (fun j hj => oq _ (fun z => hX _ _ (show zk 6 < 200 by rw [zk_6]; decide) hj z.symm))
  obtain ⟨M8, hM8⟩ : ∃ z : zM, z = zu M6 6 3 x7 := ⟨_, rfl⟩
  rw [← hM8] at hH
  refine lv_aload_n hx hb dX4_copyFrom_32 rfl (lv_at hl 0 rfl) ?_
  refine lv_aload_n hx hb dX4_copyFrom_33 rfl (lv_at hl 1 rfl) ?_
  refine z_gi (D := (dC, dI)) (cl := vwCl) (C := RX4) (T := TX4) (N := 6) (ci := 4) (k := 4) hx hb hts hinX4 hown hK hG zk_6 (by decide) rfl (by decide) rfl (hts (.fieldLink RX4 23 "Steamfield$Plant" "need" "I") (by decide +kernel)) (fun _ h9 => h9) dX4_copyFrom_34 ?_
  refine lv_topi (fun x9 ex9 => ?_)
  refine zp_i (D := (dC, dI)) (cl := vwCl) (C := RX4) (T := TX4) (N := 6) (ci := 4) (k := 4) (ty := .int) hx hb hts hinX4 tyX4 tyX4_ok nmX4 hown hK hH hI hS (fun _ h => h) zk_6 (by decide) rfl (by decide) rfl (hts (.fieldLink RX4 23 "Steamfield$Plant" "need" "I") (by decide +kernel)) (fun _ h9 => h9) rfl (by decide +kernel) rfl rfl dX4_copyFrom_37 (fun H locs hH oq hS => ?_)
  have hG := hG.kept (fun j hj => oq _ (fun z => hX _ _ (show zk 6 < 200 by rw [zk_6]; decide) hj z.symm))
  obtain ⟨M10, hM10⟩ : ∃ z : zM, z = zu M8 6 4 x9 := ⟨_, rfl⟩
  rw [← hM10] at hH
  refine lv_aload_n hx hb dX4_copyFrom_40 rfl (lv_at hl 0 rfl) ?_
  refine lv_aload_n hx hb dX4_copyFrom_41 rfl (lv_at hl 1 rfl) ?_
  refine z_gi (D := (dC, dI)) (cl := vwCl) (C := RX4) (T := TX4) (N := 6) (ci := 4) (k := 5) hx hb hts hinX4 hown hK hG zk_6 (by decide) rfl (by decide) rfl (hts (.fieldLink RX4 26 "Steamfield$Plant" "townHeat" "I") (by decide +kernel)) (fun _ h9 => h9) dX4_copyFrom_42 ?_
  refine lv_topi (fun x11 ex11 => ?_)
  refine zp_i (D := (dC, dI)) (cl := vwCl) (C := RX4) (T := TX4) (N := 6) (ci := 4) (k := 5) (ty := .int) hx hb hts hinX4 tyX4 tyX4_ok nmX4 hown hK hH hI hS (fun _ h => h) zk_6 (by decide) rfl (by decide) rfl (hts (.fieldLink RX4 26 "Steamfield$Plant" "townHeat" "I") (by decide +kernel)) (fun _ h9 => h9) rfl (by decide +kernel) rfl rfl dX4_copyFrom_45 (fun H locs hH oq hS => ?_)
  have hG := hG.kept (fun j hj => oq _ (fun z => hX _ _ (show zk 6 < 200 by rw [zk_6]; decide) hj z.symm))
  obtain ⟨M12, hM12⟩ : ∃ z : zM, z = zu M10 6 5 x11 := ⟨_, rfl⟩
  rw [← hM12] at hH
  have hF : zW dC dI ca ad (fX4_copyFrom M N ) H := by
    have e9 : M12 = fX4_copyFrom M N  := by subst hM12; subst ex11; subst hM10; subst ex9; subst hM8; subst ex7; subst hM6; subst ex5; subst hM4; subst ex3; subst hM2; subst ex1; rfl
    rw [← e9]; exact hH
  exact W.vret hx hb hr (fun t ht hW => ⟨⟨(), rfl, trivial, z_to (B := fun H => zW dC dI ca ad (fX4_copyFrom M N ) H ∧ zW dC dI ca ad2 N H) ht ⟨hF, hG⟩⟩, hS.F ht⟩) hS.2.2 dX4_copyFrom_48

def fX1_copyFrom (M : zM) (N : zM)  : zM :=
  let M1 := fX6_copyFrom M N 11 11
  let M2 := fX6_copyFrom M1 N 12 12
  let M3 := fX6_copyFrom M2 N 13 13
  let x4 := N 7 3
  let M5 := zu M3 7 3 x4
  let x6 := N 7 4
  let M7 := zu M5 7 4 x6
  M7
set_option maxHeartbeats 4000000 in
set_option maxRecDepth 100000 in
theorem m_X1_copyFrom (l : Launch) (dC : Nat → ClassId) (dI : Nat → Nat → Nat) (ca : Nat → ClassId) (ad : Nat → Nat) (hI : z_I zd ad) (ad2 : Nat → Nat) (hI2 : z_I zd ad2) (hX : ∀ i j, zk i < 200 → zk j < 200 → ad i ≠ ad2 j) (M : zM) (N : zM)  : Met l yX1_copyFrom wsX1_copyFrom ({ frames := 1, cells := 0, slots := 0, locals := 21 }) (z_Pc (dC, dI) vwCl (zt ca) zw_nest [.ref (ad 7), .ref (ad2 7)] (fun H => zW dC dI ca ad M H ∧ zW dC dI ca ad2 N H)) (z_Qv (fun H => zW dC dI ca ad (fX1_copyFrom M N ) H ∧ zW dC dI ca ad2 N H) (z_A zd ad)) 0 0 (z_A zd ad) := by
  refine Met.ofW (cc := cX1_copyFrom) (maxL := 2) (ret := none) (by decide) rfl ?_
  intro p e s m args below meth c s₁ B hml hv
  obtain ⟨rfl, ⟨hH, hG⟩, hK, hN⟩ := hv
  have hx := B.exec
  have hb := B.bytes
  have hr := B.returns
  have hts := atoms_spec (ws := wsX1_copyFrom) B.pre
  have hown : s.vm.findClass RX1 = some m.cls := findClass_of_methodNamed B.named
  have hlocks := B.notSynchronized
  have hS : va_S (z_A zd ad) s.heap s.heap [] := va_S.rf
  have hH : z_H (dC, dI) vwCl zf ca zd ad M s.heap := hH
  have hG : z_H (dC, dI) vwCl zf ca zd ad2 N s.heap := hG
  have hinX1 : ∀ w ∈ u_ws RX1 TX1 5, w ∈ wsX1_copyFrom := by decide +kernel
  have hl := lv_entry ([.ref (ad 7), .ref (ad2 7)]) (n := 2) (Nat.le_of_ble_eq_true rfl)
  rw [lg_entry_eq]
  generalize (lg_sl ([.ref (ad 7), .ref (ad2 7)]) ++ List.replicate (2 - (lg_sl ([.ref (ad 7), .ref (ad2 7)])).length) Slot.unset).toArray = ls at hl ⊢
  have hl : lv_has ls 2 [(0, .ref (ad 7)), (1, .ref (ad2 7))] := hl
  refine lv_aload_n hx hb dX1_copyFrom_0 rfl (lv_at hl 0 rfl) ?_
  refine z_gr (D := (dC, dI)) (cl := vwCl) (C := RX1) (T := TX1) (N := 5) (ci := 1) (k := 0) hx hb hts hinX1 hown hK hH zk_7 (by decide) rfl (by decide) rfl (zr_7 (k := 0) (by decide)) (hts (.fieldLink RX1 10 "Steamfield$Books" "told" "LSteamfield$Water;") (by decide +kernel)) (fun _ h9 => h9) dX1_copyFrom_1 ?_
  refine lv_aload_n hx hb dX1_copyFrom_4 rfl (lv_at hl 1 rfl) ?_
  refine z_gr (D := (dC, dI)) (cl := vwCl) (C := RX1) (T := TX1) (N := 5) (ci := 1) (k := 0) hx hb hts hinX1 hown hK hG zk_7 (by decide) rfl (by decide) rfl (zr_7 (k := 0) (by decide)) (hts (.fieldLink RX1 10 "Steamfield$Books" "told" "LSteamfield$Water;") (by decide +kernel)) (fun _ h9 => h9) dX1_copyFrom_5 ?_
  refine z_cVv (D := (dC, dI)) (cl := vwCl) (tys := zt ca) (nw := zw_nest) (C := RX6) (As := [.ref (ad2 11)]) (rest := []) ⟨hx, hb, hml, hown, hts⟩ (m_X6_copyFrom l dC dI ca ad hI ad2 hI2 hX M N 11 zk_11 11 zk_11) (cwV 1 hts gX1_copyFrom_X6_copyFrom rfl rfl rfl (by decide +kernel) ⟨Nat.le_of_ble_eq_true rfl, Nat.le_of_ble_eq_true rfl⟩) (z_recv (ci := 6) (i := 11) hK hH zk_11 (by decide) rfl) ⟨hH, hG⟩ hK hN zw_nest_ok rfl hl.1 rfl (Nat.le_of_ble_eq_true rfl) dX1_copyFrom_8 ⟨Nat.le_refl _, Nat.le_refl _⟩ hS (fun _ h => h) (fun H locs hB1 oq1 hz1 hS => ?_)
  obtain ⟨hH, hG⟩ := hB1
  obtain ⟨M1, hM1⟩ : ∃ z : zM, z = fX6_copyFrom M N 11 11 := ⟨_, rfl⟩
  have hH : z_H (dC, dI) vwCl zf ca zd ad M1 H := by rw [hM1]; exact hH
  refine lv_aload_n hx hb dX1_copyFrom_11 rfl (lv_at hl 0 rfl) ?_
  refine z_gr (D := (dC, dI)) (cl := vwCl) (C := RX1) (T := TX1) (N := 5) (ci := 1) (k := 1) hx hb hts hinX1 hown hK hH zk_7 (by decide) rfl (by decide) rfl (zr_7 (k := 1) (by decide)) (hts (.fieldLink RX1 16 "Steamfield$Books" "spilled" "LSteamfield$Water;") (by decide +kernel)) (fun _ h9 => h9) dX1_copyFrom_12 ?_
  refine lv_aload_n hx hb dX1_copyFrom_15 rfl (lv_at hl 1 rfl) ?_
  refine z_gr (D := (dC, dI)) (cl := vwCl) (C := RX1) (T := TX1) (N := 5) (ci := 1) (k := 1) hx hb hts hinX1 hown hK hG zk_7 (by decide) rfl (by decide) rfl (zr_7 (k := 1) (by decide)) (hts (.fieldLink RX1 16 "Steamfield$Books" "spilled" "LSteamfield$Water;") (by decide +kernel)) (fun _ h9 => h9) dX1_copyFrom_16 ?_
  refine z_cVv (D := (dC, dI)) (cl := vwCl) (tys := zt ca) (nw := zw_nest) (C := RX6) (As := [.ref (ad2 12)]) (rest := []) ⟨hx, hb, hml, hown, hts⟩ (m_X6_copyFrom l dC dI ca ad hI ad2 hI2 hX M1 N 12 zk_12 12 zk_12) (cwV 1 hts gX1_copyFrom_X6_copyFrom rfl rfl rfl (by decide +kernel) ⟨Nat.le_of_ble_eq_true rfl, Nat.le_of_ble_eq_true rfl⟩) (z_recv (ci := 6) (i := 12) hK hH zk_12 (by decide) rfl) ⟨hH, hG⟩ hK hN zw_nest_ok rfl hl.1 rfl (Nat.le_of_ble_eq_true rfl) dX1_copyFrom_19 ⟨Nat.le_refl _, Nat.le_refl _⟩ hS (fun _ h => h) (fun H locs hB1 oq1 hz1 hS => ?_)
  obtain ⟨hH, hG⟩ := hB1
  obtain ⟨M2, hM2⟩ : ∃ z : zM, z = fX6_copyFrom M1 N 12 12 := ⟨_, rfl⟩
  have hH : z_H (dC, dI) vwCl zf ca zd ad M2 H := by rw [hM2]; exact hH
  refine lv_aload_n hx hb dX1_copyFrom_22 rfl (lv_at hl 0 rfl) ?_
  refine z_gr (D := (dC, dI)) (cl := vwCl) (C := RX1) (T := TX1) (N := 5) (ci := 1) (k := 2) hx hb hts hinX1 hown hK hH zk_7 (by decide) rfl (by decide) rfl (zr_7 (k := 2) (by decide)) (hts (.fieldLink RX1 19 "Steamfield$Books" "sprung" "LSteamfield$Water;") (by decide +kernel)) (fun _ h9 => h9) dX1_copyFrom_23 ?_
  refine lv_aload_n hx hb dX1_copyFrom_26 rfl (lv_at hl 1 rfl) ?_
  refine z_gr (D := (dC, dI)) (cl := vwCl) (C := RX1) (T := TX1) (N := 5) (ci := 1) (k := 2) hx hb hts hinX1 hown hK hG zk_7 (by decide) rfl (by decide) rfl (zr_7 (k := 2) (by decide)) (hts (.fieldLink RX1 19 "Steamfield$Books" "sprung" "LSteamfield$Water;") (by decide +kernel)) (fun _ h9 => h9) dX1_copyFrom_27 ?_
  refine z_cVv (D := (dC, dI)) (cl := vwCl) (tys := zt ca) (nw := zw_nest) (C := RX6) (As := [.ref (ad2 13)]) (rest := []) ⟨hx, hb, hml, hown, hts⟩ (m_X6_copyFrom l dC dI ca ad hI ad2 hI2 hX M2 N 13 zk_13 13 zk_13) (cwV 1 hts gX1_copyFrom_X6_copyFrom rfl rfl rfl (by decide +kernel) ⟨Nat.le_of_ble_eq_true rfl, Nat.le_of_ble_eq_true rfl⟩) (z_recv (ci := 6) (i := 13) hK hH zk_13 (by decide) rfl) ⟨hH, hG⟩ hK hN zw_nest_ok rfl hl.1 rfl (Nat.le_of_ble_eq_true rfl) dX1_copyFrom_30 ⟨Nat.le_refl _, Nat.le_refl _⟩ hS (fun _ h => h) (fun H locs hB1 oq1 hz1 hS => ?_)
  obtain ⟨hH, hG⟩ := hB1
  obtain ⟨M3, hM3⟩ : ∃ z : zM, z = fX6_copyFrom M2 N 13 13 := ⟨_, rfl⟩
  have hH : z_H (dC, dI) vwCl zf ca zd ad M3 H := by rw [hM3]; exact hH
  refine lv_aload_n hx hb dX1_copyFrom_33 rfl (lv_at hl 0 rfl) ?_
  refine lv_aload_n hx hb dX1_copyFrom_34 rfl (lv_at hl 1 rfl) ?_
  refine z_gi (D := (dC, dI)) (cl := vwCl) (C := RX1) (T := TX1) (N := 5) (ci := 1) (k := 3) hx hb hts hinX1 hown hK hG zk_7 (by decide) rfl (by decide) rfl (hts (.fieldLink RX1 26 "Steamfield$Books" "used" "I") (by decide +kernel)) (fun _ h9 => h9) dX1_copyFrom_35 ?_
  refine lv_topi (fun x4 ex4 => ?_)
  refine zp_i (D := (dC, dI)) (cl := vwCl) (C := RX1) (T := TX1) (N := 5) (ci := 1) (k := 3) (ty := .int) hx hb hts hinX1 tyX1 tyX1_ok nmX1 hown hK hH hI hS (fun _ h => h) zk_7 (by decide) rfl (by decide) rfl (hts (.fieldLink RX1 26 "Steamfield$Books" "used" "I") (by decide +kernel)) (fun _ h9 => h9) rfl (by decide +kernel) rfl rfl dX1_copyFrom_38 (fun H locs hH oq hS => ?_)
  have hG := hG.kept (fun j hj => oq _ (fun z => hX _ _ (show zk 7 < 200 by rw [zk_7]; decide) hj z.symm))
  obtain ⟨M5, hM5⟩ : ∃ z : zM, z = zu M3 7 3 x4 := ⟨_, rfl⟩
  rw [← hM5] at hH
  refine lv_aload_n hx hb dX1_copyFrom_41 rfl (lv_at hl 0 rfl) ?_
  refine lv_aload_n hx hb dX1_copyFrom_42 rfl (lv_at hl 1 rfl) ?_
  refine z_gi (D := (dC, dI)) (cl := vwCl) (C := RX1) (T := TX1) (N := 5) (ci := 1) (k := 4) hx hb hts hinX1 hown hK hG zk_7 (by decide) rfl (by decide) rfl (hts (.fieldLink RX1 30 "Steamfield$Books" "vented" "I") (by decide +kernel)) (fun _ h9 => h9) dX1_copyFrom_43 ?_
  refine lv_topi (fun x6 ex6 => ?_)
  refine zp_i (D := (dC, dI)) (cl := vwCl) (C := RX1) (T := TX1) (N := 5) (ci := 1) (k := 4) (ty := .int) hx hb hts hinX1 tyX1 tyX1_ok nmX1 hown hK hH hI hS (fun _ h => h) zk_7 (by decide) rfl (by decide) rfl (hts (.fieldLink RX1 30 "Steamfield$Books" "vented" "I") (by decide +kernel)) (fun _ h9 => h9) rfl (by decide +kernel) rfl rfl dX1_copyFrom_46 (fun H locs hH oq hS => ?_)
  have hG := hG.kept (fun j hj => oq _ (fun z => hX _ _ (show zk 7 < 200 by rw [zk_7]; decide) hj z.symm))
  obtain ⟨M7, hM7⟩ : ∃ z : zM, z = zu M5 7 4 x6 := ⟨_, rfl⟩
  rw [← hM7] at hH
  have hF : zW dC dI ca ad (fX1_copyFrom M N ) H := by
    have e9 : M7 = fX1_copyFrom M N  := by subst hM7; subst ex6; subst hM5; subst ex4; subst hM3; subst hM2; subst hM1; rfl
    rw [← e9]; exact hH
  exact W.vret hx hb hr (fun t ht hW => ⟨⟨(), rfl, trivial, z_to (B := fun H => zW dC dI ca ad (fX1_copyFrom M N ) H ∧ zW dC dI ca ad2 N H) ht ⟨hF, hG⟩⟩, hS.F ht⟩) hS.2.2 dX1_copyFrom_49
end
section
def rX3_lastShock (M : zM)  : Int32 :=
  let x1 := M 0 14
  let x2 := x1 &&& 3
  let x3 := M 9 x2.toNatClampNeg
  x3
set_option maxHeartbeats 4000000 in
set_option maxRecDepth 100000 in
theorem m_X3_lastShock (l : Launch) (dC : Nat → ClassId) (dI : Nat → Nat → Nat) (ca : Nat → ClassId) (ad : Nat → Nat) (hI : z_I zd ad) (M : zM)  : Met l yX3_lastShock wsX3_lastShock ({ frames := 0, cells := 0, slots := 0, locals := 0 }) (z_Pc (dC, dI) vwCl (zt ca) zw_nest [.ref (ad 0)] (fun H => zW dC dI ca ad M H)) (z_Qi (rX3_lastShock M ) (fun H => zW dC dI ca ad M H) (z_A zd ad)) 0 0 (z_A zd ad) := by
  refine Met.ofW (cc := cX3_lastShock) (maxL := 1) (ret := (some .int)) (by decide) rfl ?_
  intro p e s m args below meth c s₁ B hml hv
  obtain ⟨rfl, hH, hK, hN⟩ := hv
  have hx := B.exec
  have hb := B.bytes
  have hr := B.returns
  have hts := atoms_spec (ws := wsX3_lastShock) B.pre
  have hown : s.vm.findClass RX3 = some m.cls := findClass_of_methodNamed B.named
  have hlocks := B.notSynchronized
  have hS : va_S (z_A zd ad) s.heap s.heap [] := va_S.rf
  have hH : z_H (dC, dI) vwCl zf ca zd ad M s.heap := hH
  have hinX3 : ∀ w ∈ u_ws RX3 TX3 15, w ∈ wsX3_lastShock := by decide +kernel
  have hl := lv_entry ([.ref (ad 0)]) (n := 1) (Nat.le_of_ble_eq_true rfl)
  rw [lg_entry_eq]
  generalize (lg_sl ([.ref (ad 0)]) ++ List.replicate (1 - (lg_sl ([.ref (ad 0)])).length) Slot.unset).toArray = ls at hl ⊢
  have hl : lv_has ls 1 [(0, .ref (ad 0))] := hl
  refine lv_aload_n hx hb dX3_lastShock_0 rfl (lv_at hl 0 rfl) ?_
  refine z_gr (D := (dC, dI)) (cl := vwCl) (C := RX3) (T := TX3) (N := 15) (ci := 3) (k := 8) hx hb hts hinX3 hown hK hH zk_0 (by decide) rfl (by decide) rfl (zr_0 (k := 8) (by decide)) (hts (.fieldLink RX3 60 "Steamfield$Land" "shocks" "[I") (by decide +kernel)) (fun _ h9 => h9) dX3_lastShock_1 ?_
  refine lv_aload_n hx hb dX3_lastShock_4 rfl (lv_at hl 0 rfl) ?_
  refine z_gi (D := (dC, dI)) (cl := vwCl) (C := RX3) (T := TX3) (N := 15) (ci := 3) (k := 14) hx hb hts hinX3 hown hK hH zk_0 (by decide) rfl (by decide) rfl (hts (.fieldLink RX3 111 "Steamfield$Land" "now" "I") (by decide +kernel)) (fun _ h9 => h9) dX3_lastShock_5 ?_
  refine lv_topi (fun x1 ex1 => ?_)
  refine lv_iconst (v := 3) hx hb dX3_lastShock_8 (by decide) ?_
  refine lv_iand hx hb dX3_lastShock_9 ?_
  refine lv_topi (fun x2 ex2 => ?_)
  have hx2 : z_ix x2 4 := by rw [ex2]; exact z_and3 _
  refine z_al (t0 := 0) (D := (dC, dI)) (cl := vwCl) (tys := zt ca) hx hb hK hH zk_9 rfl (show vp_in x2 4 from (z_ix.in hx2)) dX3_lastShock_10 ?_
  refine lv_topi (fun x3 ex3 => ?_)
  have hR : x3 = rX3_lastShock M  := by subst ex3; subst ex2; subst ex1; rfl
  exact W.iret (v := x3) hx hb hr (fun t ht hW => ⟨⟨x3, (), rfl, hR, z_to (B := fun H => zW dC dI ca ad M H) ht hH⟩, hS.F ht⟩) hS.2.2 dX3_lastShock_11

def bX3_light_4 (M : zM) (k1 : Nat) (st : Int32) : Int32 :=
  let a4 := st
  let x7 := M 9 k1
  let x8 := a4 + x7
  x8
def rX3_light (M : zM)  : Int32 :=
  let a4 := (zit (bX3_light_4 M) (4) 0)
  if 10 ≤ a4 then (let x12 := if 25 ≤ a4 then 2 else 1; x12) else 0
set_option maxHeartbeats 4000000 in
set_option maxRecDepth 100000 in
theorem m_X3_light (l : Launch) (dC : Nat → ClassId) (dI : Nat → Nat → Nat) (ca : Nat → ClassId) (ad : Nat → Nat) (hI : z_I zd ad) (M : zM)  : Met l yX3_light wsX3_light ({ frames := 0, cells := 0, slots := 0, locals := 0 }) (z_Pc (dC, dI) vwCl (zt ca) zw_nest [.ref (ad 0)] (fun H => zW dC dI ca ad M H)) (z_Qi (rX3_light M ) (fun H => zW dC dI ca ad M H) (z_A zd ad)) 0 0 (z_A zd ad) := by
  refine Met.ofW (cc := cX3_light) (maxL := 3) (ret := (some .int)) (by decide) rfl ?_
  intro p e s m args below meth c s₁ B hml hv
  obtain ⟨rfl, hH, hK, hN⟩ := hv
  have hx := B.exec
  have hb := B.bytes
  have hr := B.returns
  have hts := atoms_spec (ws := wsX3_light) B.pre
  have hown : s.vm.findClass RX3 = some m.cls := findClass_of_methodNamed B.named
  have hlocks := B.notSynchronized
  have hS : va_S (z_A zd ad) s.heap s.heap [] := va_S.rf
  have hH : z_H (dC, dI) vwCl zf ca zd ad M s.heap := hH
  have hinX3 : ∀ w ∈ u_ws RX3 TX3 15, w ∈ wsX3_light := by decide +kernel
  have hl := lv_entry ([.ref (ad 0)]) (n := 3) (Nat.le_of_ble_eq_true rfl)
  rw [lg_entry_eq]
  generalize (lg_sl ([.ref (ad 0)]) ++ List.replicate (3 - (lg_sl ([.ref (ad 0)])).length) Slot.unset).toArray = ls at hl ⊢
  have hl : lv_has ls 3 [(0, .ref (ad 0))] := hl
  refine lv_iconst (v := 0) hx hb dX3_light_0 (by decide) ?_
  refine lv_istore_n (lv' := [(1, .int 0), (0, .ref (ad 0))]) hx hb dX3_light_1 rfl hl (by decide) rfl (fun ls hl => ?_)
  refine lv_iconst (v := 0) hx hb dX3_light_2 (by decide) ?_
  refine lv_istore_n (lv' := [(2, .int 0), (1, .int 0), (0, .ref (ad 0))]) hx hb dX3_light_3 rfl hl (by decide) rfl (fun ls hl => ?_)
  have L5 : ∀ (d3 k1 : Nat), k1 ≤ 4 → 4 - k1 < d3 → ∀ a4 : Int32, a4 = zit (bX3_light_4 M) k1 0 → ∀ i2 : Int32, i2 = nI k1 → ∀ ls : Array Slot, lv_has ls 3 [(0, .ref (ad 0)), (1, .int a4), (2, .int i2)] → W p l e (headSpec wsX3_light ({ frames := 0, cells := 0, slots := 0, locals := 0 })).room s m ([.ref (ad 0)] : List Value).toArray below meth c s.heap [] 0 0 (MQ below (z_Qi (rX3_light M ) (fun H => zW dC dI ca ad M H) (z_A zd ad)) ([.ref (ad 0)] : List Value).toArray s 0 0 (z_A zd ad)) (F0 m 4 ls []) := by
    intro d3
    induction d3 with
    | zero => intro k1 hk1 hd; exact absurd hd (by omega)
    | succ d3 ih =>
      intro k1 hk1 hd a4 esk1 i2 ei2 ls hl
      refine lv_iload_n hx hb dX3_light_4 rfl (lv_at hl 2 rfl) ?_
      refine lv_iconst (v := 4) hx hb dX3_light_5 (by decide) ?_
      refine lv_icmp_ge (tgt := 24) hx hb dX3_light_6 (by decide) (fun c6 => ?_) (fun c6 => ?_)
      · have hkk1 : k1 = 4 := z_ge rfl ei2 hk1 (by decide) c6
        have qa4 : a4 = (zit (bX3_light_4 M) (4) 0) := by rw [← hkk1, ← esk1]
        refine lv_iload_n hx hb dX3_light_24 rfl (lv_at hl 1 rfl) ?_
        refine lv_bipush (v := 10) hx hb dX3_light_25 (by decide) ?_
        refine lv_icmp_ge (tgt := 32) hx hb dX3_light_27 (by decide) (fun c10 => ?_) (fun c10 => ?_)
        · refine lv_iload_n hx hb dX3_light_32 rfl (lv_at hl 1 rfl) ?_
          refine lv_bipush (v := 25) hx hb dX3_light_33 (by decide) ?_
          have J13 : ∀ x12 : Int32, x12 = (if 25 ≤ a4 then 2 else 1) → ∀ ls : Array Slot, lv_has ls 3 [(0, .ref (ad 0)), (1, .int a4)] → W p l e (headSpec wsX3_light ({ frames := 0, cells := 0, slots := 0, locals := 0 })).room s m ([.ref (ad 0)] : List Value).toArray below meth c s.heap [] 0 0 (MQ below (z_Qi (rX3_light M ) (fun H => zW dC dI ca ad M H) (z_A zd ad)) ([.ref (ad 0)] : List Value).toArray s 0 0 (z_A zd ad)) (F0 m 43 ls [.int x12]) := by
            intro x12 ex12 ls hl
            have hR : x12 = rX3_light M  := by subst ex12; subst qa4; exact ((if_pos c10).symm)
            exact W.iret (v := x12) hx hb hr (fun t ht hW => ⟨⟨x12, (), rfl, hR, z_to (B := fun H => zW dC dI ca ad M H) ht hH⟩, hS.F ht⟩) hS.2.2 dX3_light_43
          refine lv_icmp_ge (tgt := 42) hx hb dX3_light_35 (by decide) (fun c11 => ?_) (fun c11 => ?_)
          · refine lv_iconst (v := 2) hx hb dX3_light_42 (by decide) ?_
            exact J13 _ (by exact (if_pos c11).symm) ls (lv_sub hl [0, 1] rfl)
          · refine lv_iconst (v := 1) hx hb dX3_light_38 (by decide) ?_
            refine lv_goto (tgt := 43) hx hb dX3_light_39 (by decide) ?_
            exact J13 _ (by exact (if_neg c11).symm) ls (lv_sub hl [0, 1] rfl)
        · refine lv_iconst (v := 0) hx hb dX3_light_30 (by decide) ?_
          have hR : 0 = rX3_light M  := by subst qa4; exact ((if_neg c10).symm)
          exact W.iret (v := 0) hx hb hr (fun t ht hW => ⟨⟨0, (), rfl, hR, z_to (B := fun H => zW dC dI ca ad M H) ht hH⟩, hS.F ht⟩) hS.2.2 dX3_light_31
      · have hkk1 : k1 < 4 := z_lt rfl ei2 hk1 (by decide) c6
        refine lv_iload_n hx hb dX3_light_9 rfl (lv_at hl 1 rfl) ?_
        refine lv_aload_n hx hb dX3_light_10 rfl (lv_at hl 0 rfl) ?_
        refine z_gr (D := (dC, dI)) (cl := vwCl) (C := RX3) (T := TX3) (N := 15) (ci := 3) (k := 8) hx hb hts hinX3 hown hK hH zk_0 (by decide) rfl (by decide) rfl (zr_0 (k := 8) (by decide)) (hts (.fieldLink RX3 60 "Steamfield$Land" "shocks" "[I") (by decide +kernel)) (fun _ h9 => h9) dX3_light_11 ?_
        refine lv_iload_n hx hb dX3_light_14 rfl (lv_at hl 2 rfl) ?_
        refine z_al (t0 := 0) (D := (dC, dI)) (cl := vwCl) (tys := zt ca) hx hb hK hH zk_9 rfl (show vp_in i2 4 from (zx ei2 hkk1 (by decide))) dX3_light_15 ?_
        rw [zx_n ei2 (Nat.lt_trans hkk1 (by decide : 4 < 2 ^ 31))]
        refine lv_topi (fun x7 ex7 => ?_)
        refine lv_iadd hx hb dX3_light_16 ?_
        refine lv_topi (fun x8 ex8 => ?_)
        refine lv_istore_n (lv' := [(1, .int x8), (0, .ref (ad 0)), (2, .int i2)]) hx hb dX3_light_17 rfl hl (by decide) rfl (fun ls hl => ?_)
        obtain ⟨x9, ex9⟩ : ∃ z : Int32, z = i2 + 1 := ⟨_, rfl⟩
        refine lv_iinc (v := x9) (lv' := [(2, .int x9), (1, .int x8), (0, .ref (ad 0))]) hx hb dX3_light_18 hl (k := 2) rfl (by rw [ex9]; rfl) (by decide) rfl (fun ls hl => ?_)
        refine lv_goto (tgt := 4) hx hb dX3_light_21 (by decide) ?_
        exact ih (k1 + 1) hkk1 (by omega) x8 (by show x8 = bX3_light_4 M k1 (zit (bX3_light_4 M) k1 0); rw [← esk1]; subst ex9; subst ex8; subst ex7; rfl) x9 (z_nx ei2 ex9) ls (lv_sub hl [2, 1, 0] rfl)
  exact L5 (4 + 1) 0 (Nat.zero_le _) (by omega) 0 rfl _ rfl ls (lv_sub hl [2, 1, 0] rfl)

def fX3_drive (M : zM) (a0 : Int32) : zM :=
  let x1 := M 6 1
  let x3 := if x1 = 0 then 0 else (let x3 := M 6 0; let x4 := if x3 < a0 then x3 else a0; x4)
  let x5 := 2 * x3
  let M6 := zu M 6 2 x5
  let x7 := M6 6 3
  let x8 := M6 6 2
  let x9 := x7 + x8
  let M10 := zu M6 6 3 x9
  let x11 := M10 7 3
  let x12 := x11 + x3
  let M13 := zu M10 7 3 x12
  let x14 := M13 7 4
  let x15 := a0 - x3
  let x16 := x14 + x15
  let M17 := zu M13 7 4 x16
  let x18 := M17 6 0
  let x19 := 2 * x18
  let M21 := if a0 ≤ x19 then M17 else (let x21 := M17 6 0; let M23 := if x21 ≤ 0 then M17 else (let M23 := zu M17 6 1 0; M23); M23)
  M21
set_option maxHeartbeats 4000000 in
set_option maxRecDepth 100000 in
theorem m_X3_drive (l : Launch) (dC : Nat → ClassId) (dI : Nat → Nat → Nat) (ca : Nat → ClassId) (ad : Nat → Nat) (hI : z_I zd ad) (M : zM) (a0 : Int32) (hOk0 : z_Ok M) : Met l yX3_drive wsX3_drive ({ frames := 1, cells := 0, slots := 0, locals := 21 }) (z_Pc (dC, dI) vwCl (zt ca) zw_nest [.ref (ad 0), .int a0] (fun H => zW dC dI ca ad M H)) (z_Qv (fun H => zW dC dI ca ad (fX3_drive M a0) H ∧ z_Fx M (fX3_drive M a0)) (z_A zd ad)) 0 0 (z_A zd ad) := by
  refine Met.ofW (cc := cX3_drive) (maxL := 3) (ret := none) (by decide) rfl ?_
  intro p e s m args below meth c s₁ B hml hv
  obtain ⟨rfl, hH, hK, hN⟩ := hv
  have hx := B.exec
  have hb := B.bytes
  have hr := B.returns
  have hts := atoms_spec (ws := wsX3_drive) B.pre
  have hown : s.vm.findClass RX3 = some m.cls := findClass_of_methodNamed B.named
  have hlocks := B.notSynchronized
  have hS : va_S (z_A zd ad) s.heap s.heap [] := va_S.rf
  have hOk := hOk0
  have hFx : z_Fx M M := z_Fx.rf
  have hH : z_H (dC, dI) vwCl zf ca zd ad M s.heap := hH
  have hinX1 : ∀ w ∈ u_ws RX1 TX1 5, w ∈ wsX3_drive := by decide +kernel
  have hinX3 : ∀ w ∈ u_ws RX3 TX3 15, w ∈ wsX3_drive := by decide +kernel
  have hinX4 : ∀ w ∈ u_ws RX4 TX4 6, w ∈ wsX3_drive := by decide +kernel
  have hl := lv_entry ([.ref (ad 0), .int a0]) (n := 3) (Nat.le_of_ble_eq_true rfl)
  rw [lg_entry_eq]
  generalize (lg_sl ([.ref (ad 0), .int a0]) ++ List.replicate (3 - (lg_sl ([.ref (ad 0), .int a0])).length) Slot.unset).toArray = ls at hl ⊢
  have hl : lv_has ls 3 [(0, .ref (ad 0)), (1, .int a0)] := hl
  refine lv_aload_n hx hb dX3_drive_0 rfl (lv_at hl 0 rfl) ?_
  refine z_gr (D := (dC, dI)) (cl := vwCl) (C := RX3) (T := TX3) (N := 15) (ci := 3) (k := 5) hx hb hts hinX3 hown hK hH zk_0 (by decide) rfl (by decide) rfl (zr_0 (k := 5) (by decide)) (hts (.fieldLink RX3 45 "Steamfield$Land" "plant" "LSteamfield$Plant;") (by decide +kernel)) (fun _ h9 => h9) dX3_drive_1 ?_
  refine z_giN (D := (dC, dI)) (cl := vwCl) (C := RX4) (T := TX4) (N := 6) (ci := 4) (k := 1) hx hb hts hinX4 hown hK hH zk_6 (by decide) rfl (by decide) rfl (hN (.fieldLinkNest RX3 239 "Steamfield$Plant" "isRunning" "Z" "Steamfield") (by decide +kernel)) (fun _ h9 => h9) dX3_drive_4 ?_
  refine lv_topi (fun x1 ex1 => ?_)
  have J4 : ∀ x3 : Int32, x3 = (if x1 = 0 then 0 else (let x3 := M 6 0; let x4 := if x3 < a0 then x3 else a0; x4)) → ∀ ls : Array Slot, lv_has ls 3 [(0, .ref (ad 0)), (1, .int a0)] → W p l e (headSpec wsX3_drive ({ frames := 1, cells := 0, slots := 0, locals := 21 })).room s m ([.ref (ad 0), .int a0] : List Value).toArray below meth c s.heap [] 0 0 (MQ below (z_Qv (fun H => zW dC dI ca ad (fX3_drive M a0) H ∧ z_Fx M (fX3_drive M a0)) (z_A zd ad)) ([.ref (ad 0), .int a0] : List Value).toArray s 0 0 (z_A zd ad)) (F0 m 25 ls [.int x3]) := by
    intro x3 ex3 ls hl
    refine lv_istore_n (lv' := [(2, .int x3), (0, .ref (ad 0)), (1, .int a0)]) hx hb dX3_drive_25 rfl hl (by decide) rfl (fun ls hl => ?_)
    refine lv_aload_n hx hb dX3_drive_26 rfl (lv_at hl 1 rfl) ?_
    refine z_gr (D := (dC, dI)) (cl := vwCl) (C := RX3) (T := TX3) (N := 15) (ci := 3) (k := 5) hx hb hts hinX3 hown hK hH zk_0 (by decide) rfl (by decide) rfl (zr_0 (k := 5) (by decide)) (hts (.fieldLink RX3 45 "Steamfield$Land" "plant" "LSteamfield$Plant;") (by decide +kernel)) (fun _ h9 => h9) dX3_drive_27 ?_
    refine lv_iconst (v := 2) hx hb dX3_drive_30 (by decide) ?_
    refine lv_iload_n hx hb dX3_drive_31 rfl (lv_at hl 0 rfl) ?_
    refine lv_imul hx hb dX3_drive_32 ?_
    refine lv_topi (fun x5 ex5 => ?_)
    refine zp_iN (D := (dC, dI)) (cl := vwCl) (C := RX4) (T := TX4) (N := 6) (ci := 4) (k := 2) (ty := .int) hx hb hts hinX4 tyX4 tyX4_ok nmX4 hown hK hH hI hS (fun _ h => h) zk_6 (by decide) rfl (by decide) rfl (hN (.fieldLinkNest RX3 245 "Steamfield$Plant" "power" "I" "Steamfield") (by decide +kernel)) (fun _ h9 => h9) rfl (by decide +kernel) rfl rfl dX3_drive_33 (fun H locs hH oq hS => ?_)
    obtain ⟨M6, hM6⟩ : ∃ z : zM, z = zu M 6 2 x5 := ⟨_, rfl⟩
    rw [← hM6] at hH
    have hFx : z_Fx M M6 := hFx.tr (by rw [hM6]; exact (z_Fx.u zk_6 rfl))
    have hOk : z_Ok M6 := hOk0.fx hFx
    refine lv_aload_n hx hb dX3_drive_36 rfl (lv_at hl 1 rfl) ?_
    refine z_gr (D := (dC, dI)) (cl := vwCl) (C := RX3) (T := TX3) (N := 15) (ci := 3) (k := 5) hx hb hts hinX3 hown hK hH zk_0 (by decide) rfl (by decide) rfl (zr_0 (k := 5) (by decide)) (hts (.fieldLink RX3 45 "Steamfield$Land" "plant" "LSteamfield$Plant;") (by decide +kernel)) (fun _ h9 => h9) dX3_drive_37 ?_
    refine lv_dup hx hb dX3_drive_40 rfl ?_
    refine z_giN (D := (dC, dI)) (cl := vwCl) (C := RX4) (T := TX4) (N := 6) (ci := 4) (k := 3) hx hb hts hinX4 hown hK hH zk_6 (by decide) rfl (by decide) rfl (hN (.fieldLinkNest RX3 248 "Steamfield$Plant" "powerEver" "I" "Steamfield") (by decide +kernel)) (fun _ h9 => h9) dX3_drive_41 ?_
    refine lv_topi (fun x7 ex7 => ?_)
    refine lv_aload_n hx hb dX3_drive_44 rfl (lv_at hl 1 rfl) ?_
    refine z_gr (D := (dC, dI)) (cl := vwCl) (C := RX3) (T := TX3) (N := 15) (ci := 3) (k := 5) hx hb hts hinX3 hown hK hH zk_0 (by decide) rfl (by decide) rfl (zr_0 (k := 5) (by decide)) (hts (.fieldLink RX3 45 "Steamfield$Land" "plant" "LSteamfield$Plant;") (by decide +kernel)) (fun _ h9 => h9) dX3_drive_45 ?_
    refine z_giN (D := (dC, dI)) (cl := vwCl) (C := RX4) (T := TX4) (N := 6) (ci := 4) (k := 2) hx hb hts hinX4 hown hK hH zk_6 (by decide) rfl (by decide) rfl (hN (.fieldLinkNest RX3 245 "Steamfield$Plant" "power" "I" "Steamfield") (by decide +kernel)) (fun _ h9 => h9) dX3_drive_48 ?_
    refine lv_topi (fun x8 ex8 => ?_)
    refine lv_iadd hx hb dX3_drive_51 ?_
    refine lv_topi (fun x9 ex9 => ?_)
    refine zp_iN (D := (dC, dI)) (cl := vwCl) (C := RX4) (T := TX4) (N := 6) (ci := 4) (k := 3) (ty := .int) hx hb hts hinX4 tyX4 tyX4_ok nmX4 hown hK hH hI hS (fun _ h => h) zk_6 (by decide) rfl (by decide) rfl (hN (.fieldLinkNest RX3 248 "Steamfield$Plant" "powerEver" "I" "Steamfield") (by decide +kernel)) (fun _ h9 => h9) rfl (by decide +kernel) rfl rfl dX3_drive_52 (fun H locs hH oq hS => ?_)
    obtain ⟨M10, hM10⟩ : ∃ z : zM, z = zu M6 6 3 x9 := ⟨_, rfl⟩
    rw [← hM10] at hH
    have hFx : z_Fx M M10 := hFx.tr (by rw [hM10]; exact (z_Fx.u zk_6 rfl))
    have hOk : z_Ok M10 := hOk0.fx hFx
    refine lv_aload_n hx hb dX3_drive_55 rfl (lv_at hl 1 rfl) ?_
    refine z_gr (D := (dC, dI)) (cl := vwCl) (C := RX3) (T := TX3) (N := 15) (ci := 3) (k := 6) hx hb hts hinX3 hown hK hH zk_0 (by decide) rfl (by decide) rfl (zr_0 (k := 6) (by decide)) (hts (.fieldLink RX3 52 "Steamfield$Land" "books" "LSteamfield$Books;") (by decide +kernel)) (fun _ h9 => h9) dX3_drive_56 ?_
    refine lv_dup hx hb dX3_drive_59 rfl ?_
    refine z_giN (D := (dC, dI)) (cl := vwCl) (C := RX1) (T := TX1) (N := 5) (ci := 1) (k := 3) hx hb hts hinX1 hown hK hH zk_7 (by decide) rfl (by decide) rfl (hN (.fieldLinkNest RX3 251 "Steamfield$Books" "used" "I" "Steamfield") (by decide +kernel)) (fun _ h9 => h9) dX3_drive_60 ?_
    refine lv_topi (fun x11 ex11 => ?_)
    refine lv_iload_n hx hb dX3_drive_63 rfl (lv_at hl 0 rfl) ?_
    refine lv_iadd hx hb dX3_drive_64 ?_
    refine lv_topi (fun x12 ex12 => ?_)
    refine zp_iN (D := (dC, dI)) (cl := vwCl) (C := RX1) (T := TX1) (N := 5) (ci := 1) (k := 3) (ty := .int) hx hb hts hinX1 tyX1 tyX1_ok nmX1 hown hK hH hI hS (fun _ h => h) zk_7 (by decide) rfl (by decide) rfl (hN (.fieldLinkNest RX3 251 "Steamfield$Books" "used" "I" "Steamfield") (by decide +kernel)) (fun _ h9 => h9) rfl (by decide +kernel) rfl rfl dX3_drive_65 (fun H locs hH oq hS => ?_)
    obtain ⟨M13, hM13⟩ : ∃ z : zM, z = zu M10 7 3 x12 := ⟨_, rfl⟩
    rw [← hM13] at hH
    have hFx : z_Fx M M13 := hFx.tr (by rw [hM13]; exact (z_Fx.u zk_7 rfl))
    have hOk : z_Ok M13 := hOk0.fx hFx
    refine lv_aload_n hx hb dX3_drive_68 rfl (lv_at hl 1 rfl) ?_
    refine z_gr (D := (dC, dI)) (cl := vwCl) (C := RX3) (T := TX3) (N := 15) (ci := 3) (k := 6) hx hb hts hinX3 hown hK hH zk_0 (by decide) rfl (by decide) rfl (zr_0 (k := 6) (by decide)) (hts (.fieldLink RX3 52 "Steamfield$Land" "books" "LSteamfield$Books;") (by decide +kernel)) (fun _ h9 => h9) dX3_drive_69 ?_
    refine lv_dup hx hb dX3_drive_72 rfl ?_
    refine z_giN (D := (dC, dI)) (cl := vwCl) (C := RX1) (T := TX1) (N := 5) (ci := 1) (k := 4) hx hb hts hinX1 hown hK hH zk_7 (by decide) rfl (by decide) rfl (hN (.fieldLinkNest RX3 254 "Steamfield$Books" "vented" "I" "Steamfield") (by decide +kernel)) (fun _ h9 => h9) dX3_drive_73 ?_
    refine lv_topi (fun x14 ex14 => ?_)
    refine lv_iload_n hx hb dX3_drive_76 rfl (lv_at hl 2 rfl) ?_
    refine lv_iload_n hx hb dX3_drive_77 rfl (lv_at hl 0 rfl) ?_
    refine lv_isub hx hb dX3_drive_78 ?_
    refine lv_topi (fun x15 ex15 => ?_)
    refine lv_iadd hx hb dX3_drive_79 ?_
    refine lv_topi (fun x16 ex16 => ?_)
    refine zp_iN (D := (dC, dI)) (cl := vwCl) (C := RX1) (T := TX1) (N := 5) (ci := 1) (k := 4) (ty := .int) hx hb hts hinX1 tyX1 tyX1_ok nmX1 hown hK hH hI hS (fun _ h => h) zk_7 (by decide) rfl (by decide) rfl (hN (.fieldLinkNest RX3 254 "Steamfield$Books" "vented" "I" "Steamfield") (by decide +kernel)) (fun _ h9 => h9) rfl (by decide +kernel) rfl rfl dX3_drive_80 (fun H locs hH oq hS => ?_)
    obtain ⟨M17, hM17⟩ : ∃ z : zM, z = zu M13 7 4 x16 := ⟨_, rfl⟩
    rw [← hM17] at hH
    have hFx : z_Fx M M17 := hFx.tr (by rw [hM17]; exact (z_Fx.u zk_7 rfl))
    have hOk : z_Ok M17 := hOk0.fx hFx
    refine lv_iload_n hx hb dX3_drive_83 rfl (lv_at hl 2 rfl) ?_
    refine lv_iconst (v := 2) hx hb dX3_drive_84 (by decide) ?_
    refine lv_aload_n hx hb dX3_drive_85 rfl (lv_at hl 1 rfl) ?_
    refine z_gr (D := (dC, dI)) (cl := vwCl) (C := RX3) (T := TX3) (N := 15) (ci := 3) (k := 5) hx hb hts hinX3 hown hK hH zk_0 (by decide) rfl (by decide) rfl (zr_0 (k := 5) (by decide)) (hts (.fieldLink RX3 45 "Steamfield$Land" "plant" "LSteamfield$Plant;") (by decide +kernel)) (fun _ h9 => h9) dX3_drive_86 ?_
    refine z_giN (D := (dC, dI)) (cl := vwCl) (C := RX4) (T := TX4) (N := 6) (ci := 4) (k := 0) hx hb hts hinX4 hown hK hH zk_6 (by decide) rfl (by decide) rfl (hN (.fieldLinkNest RX3 242 "Steamfield$Plant" "size" "I" "Steamfield") (by decide +kernel)) (fun _ h9 => h9) dX3_drive_89 ?_
    refine lv_topi (fun x18 ex18 => ?_)
    refine lv_imul hx hb dX3_drive_92 ?_
    refine lv_topi (fun x19 ex19 => ?_)
    have J22 : ∀ M21 : zM, M21 = (if a0 ≤ x19 then M17 else (let x21 := M17 6 0; let M23 := if x21 ≤ 0 then M17 else (let M23 := zu M17 6 1 0; M23); M23)) → ∀ ls : Array Slot, lv_has ls 3 [(0, .ref (ad 0)), (1, .int a0), (2, .int x3)] → ∀ (H : Heap) (locs : List Loc), z_H (dC, dI) vwCl zf ca zd ad M21 H → z_Fx M M21 → va_S (z_A zd ad) s.heap H locs → W p l e (headSpec wsX3_drive ({ frames := 1, cells := 0, slots := 0, locals := 21 })).room s m ([.ref (ad 0), .int a0] : List Value).toArray below meth c H locs 0 0 (MQ below (z_Qv (fun H => zW dC dI ca ad (fX3_drive M a0) H ∧ z_Fx M (fX3_drive M a0)) (z_A zd ad)) ([.ref (ad 0), .int a0] : List Value).toArray s 0 0 (z_A zd ad)) (F0 m 114 ls []) := by
      intro M21 hM21 ls hl H locs hH hFx hS
      have hOk : z_Ok M21 := hOk0.fx hFx
      have hF : zW dC dI ca ad (fX3_drive M a0) H := by
        have e9 : M21 = fX3_drive M a0 := by subst hM21; subst ex19; subst ex18; subst hM17; subst ex16; subst ex15; subst ex14; subst hM13; subst ex12; subst ex11; subst hM10; subst ex9; subst ex8; subst ex7; subst hM6; subst ex5; subst ex3; subst ex1; rfl
        rw [← e9]; exact hH
      have hFF : z_Fx M (fX3_drive M a0) := by
        have e9 : M21 = fX3_drive M a0 := by subst hM21; subst ex19; subst ex18; subst hM17; subst ex16; subst ex15; subst ex14; subst hM13; subst ex12; subst ex11; subst hM10; subst ex9; subst ex8; subst ex7; subst hM6; subst ex5; subst ex3; subst ex1; rfl
        rw [← e9]; exact hFx
      exact W.vret hx hb hr (fun t ht hW => ⟨⟨(), rfl, trivial, z_to (B := fun H => zW dC dI ca ad (fX3_drive M a0) H ∧ z_Fx M (fX3_drive M a0)) ht ⟨hF, hFF⟩⟩, hS.F ht⟩) hS.2.2 dX3_drive_114
    refine lv_icmp_le (tgt := 114) hx hb dX3_drive_93 (by decide) (fun c20 => ?_) (fun c20 => ?_)
    · exact J22 _ (by exact (if_pos c20).symm) ls (lv_sub hl [1, 2, 0] rfl) _ _ hH hFx hS
    · refine lv_aload_n hx hb dX3_drive_96 rfl (lv_at hl 1 rfl) ?_
      refine z_gr (D := (dC, dI)) (cl := vwCl) (C := RX3) (T := TX3) (N := 15) (ci := 3) (k := 5) hx hb hts hinX3 hown hK hH zk_0 (by decide) rfl (by decide) rfl (zr_0 (k := 5) (by decide)) (hts (.fieldLink RX3 45 "Steamfield$Land" "plant" "LSteamfield$Plant;") (by decide +kernel)) (fun _ h9 => h9) dX3_drive_97 ?_
      refine z_giN (D := (dC, dI)) (cl := vwCl) (C := RX4) (T := TX4) (N := 6) (ci := 4) (k := 0) hx hb hts hinX4 hown hK hH zk_6 (by decide) rfl (by decide) rfl (hN (.fieldLinkNest RX3 242 "Steamfield$Plant" "size" "I" "Steamfield") (by decide +kernel)) (fun _ h9 => h9) dX3_drive_100 ?_
      refine lv_topi (fun x21 ex21 => ?_)
      have J24 : ∀ M23 : zM, M23 = (if x21 ≤ 0 then M17 else (let M23 := zu M17 6 1 0; M23)) → ∀ ls : Array Slot, lv_has ls 3 [(0, .ref (ad 0)), (1, .int a0), (2, .int x3)] → ∀ (H : Heap) (locs : List Loc), z_H (dC, dI) vwCl zf ca zd ad M23 H → z_Fx M M23 → va_S (z_A zd ad) s.heap H locs → W p l e (headSpec wsX3_drive ({ frames := 1, cells := 0, slots := 0, locals := 21 })).room s m ([.ref (ad 0), .int a0] : List Value).toArray below meth c H locs 0 0 (MQ below (z_Qv (fun H => zW dC dI ca ad (fX3_drive M a0) H ∧ z_Fx M (fX3_drive M a0)) (z_A zd ad)) ([.ref (ad 0), .int a0] : List Value).toArray s 0 0 (z_A zd ad)) (F0 m 114 ls []) := by
        intro M23 hM23 ls hl H locs hH hFx hS
        have hOk : z_Ok M23 := hOk0.fx hFx
        exact J22 _ (by subst hM23; subst ex21; exact (if_neg c20).symm) ls (lv_sub hl [0, 1, 2] rfl) _ _ hH hFx hS
      refine lv_if_le (tgt := 114) hx hb dX3_drive_103 (by decide) (fun c22 => ?_) (fun c22 => ?_)
      · exact J24 _ (by exact (if_pos c22).symm) ls (lv_sub hl [1, 2, 0] rfl) _ _ hH hFx hS
      · refine lv_aload_n hx hb dX3_drive_106 rfl (lv_at hl 1 rfl) ?_
        refine z_gr (D := (dC, dI)) (cl := vwCl) (C := RX3) (T := TX3) (N := 15) (ci := 3) (k := 5) hx hb hts hinX3 hown hK hH zk_0 (by decide) rfl (by decide) rfl (zr_0 (k := 5) (by decide)) (hts (.fieldLink RX3 45 "Steamfield$Land" "plant" "LSteamfield$Plant;") (by decide +kernel)) (fun _ h9 => h9) dX3_drive_107 ?_
        refine lv_iconst (v := 0) hx hb dX3_drive_110 (by decide) ?_
        refine zp_iN (D := (dC, dI)) (cl := vwCl) (C := RX4) (T := TX4) (N := 6) (ci := 4) (k := 1) (ty := .boolean) hx hb hts hinX4 tyX4 tyX4_ok nmX4 hown hK hH hI hS (fun _ h => h) zk_6 (by decide) rfl (by decide) rfl (hN (.fieldLinkNest RX3 239 "Steamfield$Plant" "isRunning" "Z" "Steamfield") (by decide +kernel)) (fun _ h9 => h9) rfl (by decide +kernel) (by decide) (by decide) dX3_drive_111 (fun H locs hH oq hS => ?_)
        obtain ⟨M23, hM23⟩ : ∃ z : zM, z = zu M17 6 1 0 := ⟨_, rfl⟩
        rw [← hM23] at hH
        have hFx : z_Fx M M23 := hFx.tr (by rw [hM23]; exact (z_Fx.u zk_6 rfl))
        have hOk : z_Ok M23 := hOk0.fx hFx
        exact J24 _ (by subst hM23; exact (if_neg c22).symm) ls (lv_sub hl [1, 2, 0] rfl) _ _ hH hFx hS
  refine lv_if_eq (tgt := 24) hx hb dX3_drive_7 (by decide) (fun c2 => ?_) (fun c2 => ?_)
  · refine lv_iconst (v := 0) hx hb dX3_drive_24 (by decide) ?_
    exact J4 _ (by exact (if_pos c2).symm) ls (lv_sub hl [0, 1] rfl)
  · refine lv_iload_n hx hb dX3_drive_10 rfl (lv_at hl 1 rfl) ?_
    refine lv_aload_n hx hb dX3_drive_11 rfl (lv_at hl 0 rfl) ?_
    refine z_gr (D := (dC, dI)) (cl := vwCl) (C := RX3) (T := TX3) (N := 15) (ci := 3) (k := 5) hx hb hts hinX3 hown hK hH zk_0 (by decide) rfl (by decide) rfl (zr_0 (k := 5) (by decide)) (hts (.fieldLink RX3 45 "Steamfield$Land" "plant" "LSteamfield$Plant;") (by decide +kernel)) (fun _ h9 => h9) dX3_drive_12 ?_
    refine z_giN (D := (dC, dI)) (cl := vwCl) (C := RX4) (T := TX4) (N := 6) (ci := 4) (k := 0) hx hb hts hinX4 hown hK hH zk_6 (by decide) rfl (by decide) rfl (hN (.fieldLinkNest RX3 242 "Steamfield$Plant" "size" "I" "Steamfield") (by decide +kernel)) (fun _ h9 => h9) dX3_drive_15 ?_
    refine lv_topi (fun x3 ex3 => ?_)
    refine va_mmin hx hb (hml.trans hl.1.symm) hown (hts (.methodLink RX3 216 Lib.Math.min.name) (by decide +kernel)) (hts (.static Lib.Math.min.name) (by decide +kernel)) (hts (.initialized "java/lang/Math") (by decide +kernel)) (hts (.code Lib.Math.min.name Lib.Math.min.code 2 (some .int)) (by decide +kernel)) (Nat.le_of_ble_eq_true rfl) (Nat.le_of_ble_eq_true rfl) (Nat.le_refl _) (Nat.le_refl _) dX3_drive_18 ?_
    refine lv_topi (fun x4 ex4 => ?_)
    refine lv_goto (tgt := 25) hx hb dX3_drive_21 (by decide) ?_
    exact J4 _ (by subst ex4; subst ex3; exact (if_neg c2).symm) ls (lv_sub hl [0, 1] rfl)

def fX3_warmTheTown (M : zM)  : zM :=
  let x1 := M 5 1
  let x2 := M 5 0
  let x3 := 30 * x2
  let x4 := x1 - x3
  let x5 := if x4 < 0 then 0 else x4
  let x6 := M 6 4
  let x7 := if x5 < x6 then x5 else x6
  let M8 := zu M 6 5 x7
  let x9 := M8 5 1
  let x10 := M8 6 5
  let x11 := x9 - x10
  let M12 := zu M8 5 1 x11
  M12
set_option maxHeartbeats 4000000 in
set_option maxRecDepth 100000 in
theorem m_X3_warmTheTown (l : Launch) (dC : Nat → ClassId) (dI : Nat → Nat → Nat) (ca : Nat → ClassId) (ad : Nat → Nat) (hI : z_I zd ad) (M : zM) (hOk0 : z_Ok M) : Met l yX3_warmTheTown wsX3_warmTheTown ({ frames := 1, cells := 0, slots := 0, locals := 21 }) (z_Pc (dC, dI) vwCl (zt ca) zw_nest [.ref (ad 0)] (fun H => zW dC dI ca ad M H)) (z_Qv (fun H => zW dC dI ca ad (fX3_warmTheTown M ) H ∧ z_Fx M (fX3_warmTheTown M )) (z_A zd ad)) 0 0 (z_A zd ad) := by
  refine Met.ofW (cc := cX3_warmTheTown) (maxL := 2) (ret := none) (by decide) rfl ?_
  intro p e s m args below meth c s₁ B hml hv
  obtain ⟨rfl, hH, hK, hN⟩ := hv
  have hx := B.exec
  have hb := B.bytes
  have hr := B.returns
  have hts := atoms_spec (ws := wsX3_warmTheTown) B.pre
  have hown : s.vm.findClass RX3 = some m.cls := findClass_of_methodNamed B.named
  have hlocks := B.notSynchronized
  have hS : va_S (z_A zd ad) s.heap s.heap [] := va_S.rf
  have hOk := hOk0
  have hFx : z_Fx M M := z_Fx.rf
  have hH : z_H (dC, dI) vwCl zf ca zd ad M s.heap := hH
  have hinX3 : ∀ w ∈ u_ws RX3 TX3 15, w ∈ wsX3_warmTheTown := by decide +kernel
  have hinX4 : ∀ w ∈ u_ws RX4 TX4 6, w ∈ wsX3_warmTheTown := by decide +kernel
  have hinX6 : ∀ w ∈ u_ws RX6 TX6 4, w ∈ wsX3_warmTheTown := by decide +kernel
  have hl := lv_entry ([.ref (ad 0)]) (n := 2) (Nat.le_of_ble_eq_true rfl)
  rw [lg_entry_eq]
  generalize (lg_sl ([.ref (ad 0)]) ++ List.replicate (2 - (lg_sl ([.ref (ad 0)])).length) Slot.unset).toArray = ls at hl ⊢
  have hl : lv_has ls 2 [(0, .ref (ad 0))] := hl
  refine lv_aload_n hx hb dX3_warmTheTown_0 rfl (lv_at hl 0 rfl) ?_
  refine z_gr (D := (dC, dI)) (cl := vwCl) (C := RX3) (T := TX3) (N := 15) (ci := 3) (k := 4) hx hb hts hinX3 hown hK hH zk_0 (by decide) rfl (by decide) rfl (zr_0 (k := 4) (by decide)) (hts (.fieldLink RX3 38 "Steamfield$Land" "pond" "LSteamfield$Water;") (by decide +kernel)) (fun _ h9 => h9) dX3_warmTheTown_1 ?_
  refine z_giN (D := (dC, dI)) (cl := vwCl) (C := RX6) (T := TX6) (N := 4) (ci := 6) (k := 1) hx hb hts hinX6 hown hK hH zk_5 (by decide) rfl (by decide) rfl (hN (.fieldLinkNest RX3 213 "Steamfield$Water" "heat" "I" "Steamfield") (by decide +kernel)) (fun _ h9 => h9) dX3_warmTheTown_4 ?_
  refine lv_topi (fun x1 ex1 => ?_)
  refine lv_bipush (v := 30) hx hb dX3_warmTheTown_7 (by decide) ?_
  refine lv_aload_n hx hb dX3_warmTheTown_9 rfl (lv_at hl 0 rfl) ?_
  refine z_gr (D := (dC, dI)) (cl := vwCl) (C := RX3) (T := TX3) (N := 15) (ci := 3) (k := 4) hx hb hts hinX3 hown hK hH zk_0 (by decide) rfl (by decide) rfl (zr_0 (k := 4) (by decide)) (hts (.fieldLink RX3 38 "Steamfield$Land" "pond" "LSteamfield$Water;") (by decide +kernel)) (fun _ h9 => h9) dX3_warmTheTown_10 ?_
  refine z_giN (D := (dC, dI)) (cl := vwCl) (C := RX6) (T := TX6) (N := 4) (ci := 6) (k := 0) hx hb hts hinX6 hown hK hH zk_5 (by decide) rfl (by decide) rfl (hN (.fieldLinkNest RX3 204 "Steamfield$Water" "mass" "I" "Steamfield") (by decide +kernel)) (fun _ h9 => h9) dX3_warmTheTown_13 ?_
  refine lv_topi (fun x2 ex2 => ?_)
  refine lv_imul hx hb dX3_warmTheTown_16 ?_
  refine lv_topi (fun x3 ex3 => ?_)
  refine lv_isub hx hb dX3_warmTheTown_17 ?_
  refine lv_topi (fun x4 ex4 => ?_)
  refine lv_iconst (v := 0) hx hb dX3_warmTheTown_18 (by decide) ?_
  refine va_mmax hx hb (hml.trans hl.1.symm) hown (hts (.methodLink RX3 226 Lib.Math.max.name) (by decide +kernel)) (hts (.static Lib.Math.max.name) (by decide +kernel)) (hts (.initialized "java/lang/Math") (by decide +kernel)) (hts (.code Lib.Math.max.name Lib.Math.max.code 2 (some .int)) (by decide +kernel)) (Nat.le_of_ble_eq_true rfl) (Nat.le_of_ble_eq_true rfl) (Nat.le_refl _) (Nat.le_refl _) dX3_warmTheTown_19 ?_
  refine lv_topi (fun x5 ex5 => ?_)
  refine lv_istore_n (lv' := [(1, .int x5), (0, .ref (ad 0))]) hx hb dX3_warmTheTown_22 rfl hl (by decide) rfl (fun ls hl => ?_)
  refine lv_aload_n hx hb dX3_warmTheTown_23 rfl (lv_at hl 1 rfl) ?_
  refine z_gr (D := (dC, dI)) (cl := vwCl) (C := RX3) (T := TX3) (N := 15) (ci := 3) (k := 5) hx hb hts hinX3 hown hK hH zk_0 (by decide) rfl (by decide) rfl (zr_0 (k := 5) (by decide)) (hts (.fieldLink RX3 45 "Steamfield$Land" "plant" "LSteamfield$Plant;") (by decide +kernel)) (fun _ h9 => h9) dX3_warmTheTown_24 ?_
  refine lv_aload_n hx hb dX3_warmTheTown_27 rfl (lv_at hl 1 rfl) ?_
  refine z_gr (D := (dC, dI)) (cl := vwCl) (C := RX3) (T := TX3) (N := 15) (ci := 3) (k := 5) hx hb hts hinX3 hown hK hH zk_0 (by decide) rfl (by decide) rfl (zr_0 (k := 5) (by decide)) (hts (.fieldLink RX3 45 "Steamfield$Land" "plant" "LSteamfield$Plant;") (by decide +kernel)) (fun _ h9 => h9) dX3_warmTheTown_28 ?_
  refine z_giN (D := (dC, dI)) (cl := vwCl) (C := RX4) (T := TX4) (N := 6) (ci := 4) (k := 4) hx hb hts hinX4 hown hK hH zk_6 (by decide) rfl (by decide) rfl (hN (.fieldLinkNest RX3 257 "Steamfield$Plant" "need" "I" "Steamfield") (by decide +kernel)) (fun _ h9 => h9) dX3_warmTheTown_31 ?_
  refine lv_topi (fun x6 ex6 => ?_)
  refine lv_iload_n hx hb dX3_warmTheTown_34 rfl (lv_at hl 0 rfl) ?_
  refine va_mmin hx hb (hml.trans hl.1.symm) hown (hts (.methodLink RX3 216 Lib.Math.min.name) (by decide +kernel)) (hts (.static Lib.Math.min.name) (by decide +kernel)) (hts (.initialized "java/lang/Math") (by decide +kernel)) (hts (.code Lib.Math.min.name Lib.Math.min.code 2 (some .int)) (by decide +kernel)) (Nat.le_of_ble_eq_true rfl) (Nat.le_of_ble_eq_true rfl) (Nat.le_refl _) (Nat.le_refl _) dX3_warmTheTown_35 ?_
  refine lv_topi (fun x7 ex7 => ?_)
  refine zp_iN (D := (dC, dI)) (cl := vwCl) (C := RX4) (T := TX4) (N := 6) (ci := 4) (k := 5) (ty := .int) hx hb hts hinX4 tyX4 tyX4_ok nmX4 hown hK hH hI hS (fun _ h => h) zk_6 (by decide) rfl (by decide) rfl (hN (.fieldLinkNest RX3 260 "Steamfield$Plant" "townHeat" "I" "Steamfield") (by decide +kernel)) (fun _ h9 => h9) rfl (by decide +kernel) rfl rfl dX3_warmTheTown_38 (fun H locs hH oq hS => ?_)
  obtain ⟨M8, hM8⟩ : ∃ z : zM, z = zu M 6 5 x7 := ⟨_, rfl⟩
  rw [← hM8] at hH
  have hFx : z_Fx M M8 := hFx.tr (by rw [hM8]; exact (z_Fx.u zk_6 rfl))
  have hOk : z_Ok M8 := hOk0.fx hFx
  refine lv_aload_n hx hb dX3_warmTheTown_41 rfl (lv_at hl 1 rfl) ?_
  refine z_gr (D := (dC, dI)) (cl := vwCl) (C := RX3) (T := TX3) (N := 15) (ci := 3) (k := 4) hx hb hts hinX3 hown hK hH zk_0 (by decide) rfl (by decide) rfl (zr_0 (k := 4) (by decide)) (hts (.fieldLink RX3 38 "Steamfield$Land" "pond" "LSteamfield$Water;") (by decide +kernel)) (fun _ h9 => h9) dX3_warmTheTown_42 ?_
  refine lv_dup hx hb dX3_warmTheTown_45 rfl ?_
  refine z_giN (D := (dC, dI)) (cl := vwCl) (C := RX6) (T := TX6) (N := 4) (ci := 6) (k := 1) hx hb hts hinX6 hown hK hH zk_5 (by decide) rfl (by decide) rfl (hN (.fieldLinkNest RX3 213 "Steamfield$Water" "heat" "I" "Steamfield") (by decide +kernel)) (fun _ h9 => h9) dX3_warmTheTown_46 ?_
  refine lv_topi (fun x9 ex9 => ?_)
  refine lv_aload_n hx hb dX3_warmTheTown_49 rfl (lv_at hl 1 rfl) ?_
  refine z_gr (D := (dC, dI)) (cl := vwCl) (C := RX3) (T := TX3) (N := 15) (ci := 3) (k := 5) hx hb hts hinX3 hown hK hH zk_0 (by decide) rfl (by decide) rfl (zr_0 (k := 5) (by decide)) (hts (.fieldLink RX3 45 "Steamfield$Land" "plant" "LSteamfield$Plant;") (by decide +kernel)) (fun _ h9 => h9) dX3_warmTheTown_50 ?_
  refine z_giN (D := (dC, dI)) (cl := vwCl) (C := RX4) (T := TX4) (N := 6) (ci := 4) (k := 5) hx hb hts hinX4 hown hK hH zk_6 (by decide) rfl (by decide) rfl (hN (.fieldLinkNest RX3 260 "Steamfield$Plant" "townHeat" "I" "Steamfield") (by decide +kernel)) (fun _ h9 => h9) dX3_warmTheTown_53 ?_
  refine lv_topi (fun x10 ex10 => ?_)
  refine lv_isub hx hb dX3_warmTheTown_56 ?_
  refine lv_topi (fun x11 ex11 => ?_)
  refine zp_iN (D := (dC, dI)) (cl := vwCl) (C := RX6) (T := TX6) (N := 4) (ci := 6) (k := 1) (ty := .int) hx hb hts hinX6 tyX6 tyX6_ok nmX6 hown hK hH hI hS (fun _ h => h) zk_5 (by decide) rfl (by decide) rfl (hN (.fieldLinkNest RX3 213 "Steamfield$Water" "heat" "I" "Steamfield") (by decide +kernel)) (fun _ h9 => h9) rfl (by decide +kernel) rfl rfl dX3_warmTheTown_57 (fun H locs hH oq hS => ?_)
  obtain ⟨M12, hM12⟩ : ∃ z : zM, z = zu M8 5 1 x11 := ⟨_, rfl⟩
  rw [← hM12] at hH
  have hFx : z_Fx M M12 := hFx.tr (by rw [hM12]; exact (z_Fx.u zk_5 rfl))
  have hOk : z_Ok M12 := hOk0.fx hFx
  have hF : zW dC dI ca ad (fX3_warmTheTown M ) H := by
    have e9 : M12 = fX3_warmTheTown M  := by subst hM12; subst ex11; subst ex10; subst ex9; subst hM8; subst ex7; subst ex6; subst ex5; subst ex4; subst ex3; subst ex2; subst ex1; rfl
    rw [← e9]; exact hH
  have hFF : z_Fx M (fX3_warmTheTown M ) := by
    have e9 : M12 = fX3_warmTheTown M  := by subst hM12; subst ex11; subst ex10; subst ex9; subst hM8; subst ex7; subst ex6; subst ex5; subst ex4; subst ex3; subst ex2; subst ex1; rfl
    rw [← e9]; exact hFx
  exact W.vret hx hb hr (fun t ht hW => ⟨⟨(), rfl, trivial, z_to (B := fun H => zW dC dI ca ad (fX3_warmTheTown M ) H ∧ z_Fx M (fX3_warmTheTown M )) ht ⟨hF, hFF⟩⟩, hS.F ht⟩) hS.2.2 dX3_warmTheTown_60

def fX3_drain (M : zM) (a0 : Int32) : zM :=
  let M1 := zu M 10 0 a0
  let x2 := M1 5 1
  let x3 := rX6_shareOf M1 5 x2 a0
  let M4 := zu M1 10 1 x3
  let x5 := M4 5 2
  let x6 := rX6_shareOf M4 5 x5 a0
  let M7 := zu M4 10 2 x6
  let x8 := M7 5 3
  let x9 := rX6_shareOf M7 5 x8 a0
  let M10 := zu M7 10 3 x9
  let M11 := fX6_remove M10 5 10
  M11
set_option maxHeartbeats 4000000 in
set_option maxRecDepth 100000 in
theorem m_X3_drain (l : Launch) (dC : Nat → ClassId) (dI : Nat → Nat → Nat) (ca : Nat → ClassId) (ad : Nat → Nat) (hI : z_I zd ad) (M : zM) (a0 : Int32) (hOk0 : z_Ok M) : Met l yX3_drain wsX3_drain ({ frames := 1, cells := 0, slots := 0, locals := 22 }) (z_Pc (dC, dI) vwCl (zt ca) zw_nest [.ref (ad 0), .int a0] (fun H => zW dC dI ca ad M H)) (z_Qv (fun H => zW dC dI ca ad (fX3_drain M a0) H ∧ z_Fx M (fX3_drain M a0)) (z_A zd ad)) 0 0 (z_A zd ad) := by
  refine Met.ofW (cc := cX3_drain) (maxL := 2) (ret := none) (by decide) rfl ?_
  intro p e s m args below meth c s₁ B hml hv
  obtain ⟨rfl, hH, hK, hN⟩ := hv
  have hx := B.exec
  have hb := B.bytes
  have hr := B.returns
  have hts := atoms_spec (ws := wsX3_drain) B.pre
  have hown : s.vm.findClass RX3 = some m.cls := findClass_of_methodNamed B.named
  have hlocks := B.notSynchronized
  have hS : va_S (z_A zd ad) s.heap s.heap [] := va_S.rf
  have hOk := hOk0
  have hFx : z_Fx M M := z_Fx.rf
  have hH : z_H (dC, dI) vwCl zf ca zd ad M s.heap := hH
  have hinX3 : ∀ w ∈ u_ws RX3 TX3 15, w ∈ wsX3_drain := by decide +kernel
  have hinX6 : ∀ w ∈ u_ws RX6 TX6 4, w ∈ wsX3_drain := by decide +kernel
  have hl := lv_entry ([.ref (ad 0), .int a0]) (n := 2) (Nat.le_of_ble_eq_true rfl)
  rw [lg_entry_eq]
  generalize (lg_sl ([.ref (ad 0), .int a0]) ++ List.replicate (2 - (lg_sl ([.ref (ad 0), .int a0])).length) Slot.unset).toArray = ls at hl ⊢
  have hl : lv_has ls 2 [(0, .ref (ad 0)), (1, .int a0)] := hl
  refine lv_aload_n hx hb dX3_drain_0 rfl (lv_at hl 0 rfl) ?_
  refine z_gr (D := (dC, dI)) (cl := vwCl) (C := RX3) (T := TX3) (N := 15) (ci := 3) (k := 9) hx hb hts hinX3 hown hK hH zk_0 (by decide) rfl (by decide) rfl (zr_0 (k := 9) (by decide)) (hts (.fieldLink RX3 63 "Steamfield$Land" "load" "LSteamfield$Water;") (by decide +kernel)) (fun _ h9 => h9) dX3_drain_1 ?_
  refine lv_iload_n hx hb dX3_drain_4 rfl (lv_at hl 1 rfl) ?_
  refine zp_iN (D := (dC, dI)) (cl := vwCl) (C := RX6) (T := TX6) (N := 4) (ci := 6) (k := 0) (ty := .int) hx hb hts hinX6 tyX6 tyX6_ok nmX6 hown hK hH hI hS (fun _ h => h) zk_10 (by decide) rfl (by decide) rfl (hN (.fieldLinkNest RX3 204 "Steamfield$Water" "mass" "I" "Steamfield") (by decide +kernel)) (fun _ h9 => h9) rfl (by decide +kernel) rfl rfl dX3_drain_5 (fun H locs hH oq hS => ?_)
  obtain ⟨M1, hM1⟩ : ∃ z : zM, z = zu M 10 0 a0 := ⟨_, rfl⟩
  rw [← hM1] at hH
  have hFx : z_Fx M M1 := hFx.tr (by rw [hM1]; exact (z_Fx.u zk_10 rfl))
  have hOk : z_Ok M1 := hOk0.fx hFx
  refine lv_aload_n hx hb dX3_drain_8 rfl (lv_at hl 0 rfl) ?_
  refine z_gr (D := (dC, dI)) (cl := vwCl) (C := RX3) (T := TX3) (N := 15) (ci := 3) (k := 9) hx hb hts hinX3 hown hK hH zk_0 (by decide) rfl (by decide) rfl (zr_0 (k := 9) (by decide)) (hts (.fieldLink RX3 63 "Steamfield$Land" "load" "LSteamfield$Water;") (by decide +kernel)) (fun _ h9 => h9) dX3_drain_9 ?_
  refine lv_aload_n hx hb dX3_drain_12 rfl (lv_at hl 0 rfl) ?_
  refine z_gr (D := (dC, dI)) (cl := vwCl) (C := RX3) (T := TX3) (N := 15) (ci := 3) (k := 4) hx hb hts hinX3 hown hK hH zk_0 (by decide) rfl (by decide) rfl (zr_0 (k := 4) (by decide)) (hts (.fieldLink RX3 38 "Steamfield$Land" "pond" "LSteamfield$Water;") (by decide +kernel)) (fun _ h9 => h9) dX3_drain_13 ?_
  refine lv_aload_n hx hb dX3_drain_16 rfl (lv_at hl 0 rfl) ?_
  refine z_gr (D := (dC, dI)) (cl := vwCl) (C := RX3) (T := TX3) (N := 15) (ci := 3) (k := 4) hx hb hts hinX3 hown hK hH zk_0 (by decide) rfl (by decide) rfl (zr_0 (k := 4) (by decide)) (hts (.fieldLink RX3 38 "Steamfield$Land" "pond" "LSteamfield$Water;") (by decide +kernel)) (fun _ h9 => h9) dX3_drain_17 ?_
  refine z_giN (D := (dC, dI)) (cl := vwCl) (C := RX6) (T := TX6) (N := 4) (ci := 6) (k := 1) hx hb hts hinX6 hown hK hH zk_5 (by decide) rfl (by decide) rfl (hN (.fieldLinkNest RX3 213 "Steamfield$Water" "heat" "I" "Steamfield") (by decide +kernel)) (fun _ h9 => h9) dX3_drain_20 ?_
  refine lv_topi (fun x2 ex2 => ?_)
  refine lv_iload_n hx hb dX3_drain_23 rfl (lv_at hl 1 rfl) ?_
  refine z_cVi (D := (dC, dI)) (cl := vwCl) (tys := zt ca) (nw := zw_nest) (C := RX6) (As := [.int x2, .int a0]) (rest := [.ref (ad 10)]) ⟨hx, hb, hml, hown, hts⟩ (m_X6_shareOf l dC dI ca ad hI M1 5 zk_5 x2 a0) (cwV 2 hts gX3_drain_X6_shareOf rfl rfl rfl (by decide +kernel) ⟨Nat.le_of_ble_eq_true rfl, Nat.le_of_ble_eq_true rfl⟩) (z_recv (ci := 6) (i := 5) hK hH zk_5 (by decide) rfl) hH hK hN zw_nest_ok rfl hl.1 rfl (Nat.le_of_ble_eq_true rfl) dX3_drain_24 ⟨Nat.le_refl _, Nat.le_refl _⟩ hS (fun _ h => h) (fun H locs hB1 oq1 hz1 hS => ?_)
  have hH := hB1
  refine lv_topi (fun x3 ex3 => ?_)
  refine zp_iN (D := (dC, dI)) (cl := vwCl) (C := RX6) (T := TX6) (N := 4) (ci := 6) (k := 1) (ty := .int) hx hb hts hinX6 tyX6 tyX6_ok nmX6 hown hK hH hI hS (fun _ h => h) zk_10 (by decide) rfl (by decide) rfl (hN (.fieldLinkNest RX3 213 "Steamfield$Water" "heat" "I" "Steamfield") (by decide +kernel)) (fun _ h9 => h9) rfl (by decide +kernel) rfl rfl dX3_drain_27 (fun H locs hH oq hS => ?_)
  obtain ⟨M4, hM4⟩ : ∃ z : zM, z = zu M1 10 1 x3 := ⟨_, rfl⟩
  rw [← hM4] at hH
  have hFx : z_Fx M M4 := hFx.tr (by rw [hM4]; exact (z_Fx.u zk_10 rfl))
  have hOk : z_Ok M4 := hOk0.fx hFx
  refine lv_aload_n hx hb dX3_drain_30 rfl (lv_at hl 0 rfl) ?_
  refine z_gr (D := (dC, dI)) (cl := vwCl) (C := RX3) (T := TX3) (N := 15) (ci := 3) (k := 9) hx hb hts hinX3 hown hK hH zk_0 (by decide) rfl (by decide) rfl (zr_0 (k := 9) (by decide)) (hts (.fieldLink RX3 63 "Steamfield$Land" "load" "LSteamfield$Water;") (by decide +kernel)) (fun _ h9 => h9) dX3_drain_31 ?_
  refine lv_aload_n hx hb dX3_drain_34 rfl (lv_at hl 0 rfl) ?_
  refine z_gr (D := (dC, dI)) (cl := vwCl) (C := RX3) (T := TX3) (N := 15) (ci := 3) (k := 4) hx hb hts hinX3 hown hK hH zk_0 (by decide) rfl (by decide) rfl (zr_0 (k := 4) (by decide)) (hts (.fieldLink RX3 38 "Steamfield$Land" "pond" "LSteamfield$Water;") (by decide +kernel)) (fun _ h9 => h9) dX3_drain_35 ?_
  refine lv_aload_n hx hb dX3_drain_38 rfl (lv_at hl 0 rfl) ?_
  refine z_gr (D := (dC, dI)) (cl := vwCl) (C := RX3) (T := TX3) (N := 15) (ci := 3) (k := 4) hx hb hts hinX3 hown hK hH zk_0 (by decide) rfl (by decide) rfl (zr_0 (k := 4) (by decide)) (hts (.fieldLink RX3 38 "Steamfield$Land" "pond" "LSteamfield$Water;") (by decide +kernel)) (fun _ h9 => h9) dX3_drain_39 ?_
  refine z_giN (D := (dC, dI)) (cl := vwCl) (C := RX6) (T := TX6) (N := 4) (ci := 6) (k := 2) hx hb hts hinX6 hown hK hH zk_5 (by decide) rfl (by decide) rfl (hN (.fieldLinkNest RX3 233 "Steamfield$Water" "salt" "I" "Steamfield") (by decide +kernel)) (fun _ h9 => h9) dX3_drain_42 ?_
  refine lv_topi (fun x5 ex5 => ?_)
  refine lv_iload_n hx hb dX3_drain_45 rfl (lv_at hl 1 rfl) ?_
  refine z_cVi (D := (dC, dI)) (cl := vwCl) (tys := zt ca) (nw := zw_nest) (C := RX6) (As := [.int x5, .int a0]) (rest := [.ref (ad 10)]) ⟨hx, hb, hml, hown, hts⟩ (m_X6_shareOf l dC dI ca ad hI M4 5 zk_5 x5 a0) (cwV 2 hts gX3_drain_X6_shareOf rfl rfl rfl (by decide +kernel) ⟨Nat.le_of_ble_eq_true rfl, Nat.le_of_ble_eq_true rfl⟩) (z_recv (ci := 6) (i := 5) hK hH zk_5 (by decide) rfl) hH hK hN zw_nest_ok rfl hl.1 rfl (Nat.le_of_ble_eq_true rfl) dX3_drain_46 ⟨Nat.le_refl _, Nat.le_refl _⟩ hS (fun _ h => h) (fun H locs hB1 oq1 hz1 hS => ?_)
  have hH := hB1
  refine lv_topi (fun x6 ex6 => ?_)
  refine zp_iN (D := (dC, dI)) (cl := vwCl) (C := RX6) (T := TX6) (N := 4) (ci := 6) (k := 2) (ty := .int) hx hb hts hinX6 tyX6 tyX6_ok nmX6 hown hK hH hI hS (fun _ h => h) zk_10 (by decide) rfl (by decide) rfl (hN (.fieldLinkNest RX3 233 "Steamfield$Water" "salt" "I" "Steamfield") (by decide +kernel)) (fun _ h9 => h9) rfl (by decide +kernel) rfl rfl dX3_drain_49 (fun H locs hH oq hS => ?_)
  obtain ⟨M7, hM7⟩ : ∃ z : zM, z = zu M4 10 2 x6 := ⟨_, rfl⟩
  rw [← hM7] at hH
  have hFx : z_Fx M M7 := hFx.tr (by rw [hM7]; exact (z_Fx.u zk_10 rfl))
  have hOk : z_Ok M7 := hOk0.fx hFx
  refine lv_aload_n hx hb dX3_drain_52 rfl (lv_at hl 0 rfl) ?_
  refine z_gr (D := (dC, dI)) (cl := vwCl) (C := RX3) (T := TX3) (N := 15) (ci := 3) (k := 9) hx hb hts hinX3 hown hK hH zk_0 (by decide) rfl (by decide) rfl (zr_0 (k := 9) (by decide)) (hts (.fieldLink RX3 63 "Steamfield$Land" "load" "LSteamfield$Water;") (by decide +kernel)) (fun _ h9 => h9) dX3_drain_53 ?_
  refine lv_aload_n hx hb dX3_drain_56 rfl (lv_at hl 0 rfl) ?_
  refine z_gr (D := (dC, dI)) (cl := vwCl) (C := RX3) (T := TX3) (N := 15) (ci := 3) (k := 4) hx hb hts hinX3 hown hK hH zk_0 (by decide) rfl (by decide) rfl (zr_0 (k := 4) (by decide)) (hts (.fieldLink RX3 38 "Steamfield$Land" "pond" "LSteamfield$Water;") (by decide +kernel)) (fun _ h9 => h9) dX3_drain_57 ?_
  refine lv_aload_n hx hb dX3_drain_60 rfl (lv_at hl 0 rfl) ?_
  refine z_gr (D := (dC, dI)) (cl := vwCl) (C := RX3) (T := TX3) (N := 15) (ci := 3) (k := 4) hx hb hts hinX3 hown hK hH zk_0 (by decide) rfl (by decide) rfl (zr_0 (k := 4) (by decide)) (hts (.fieldLink RX3 38 "Steamfield$Land" "pond" "LSteamfield$Water;") (by decide +kernel)) (fun _ h9 => h9) dX3_drain_61 ?_
  refine z_giN (D := (dC, dI)) (cl := vwCl) (C := RX6) (T := TX6) (N := 4) (ci := 6) (k := 3) hx hb hts hinX6 hown hK hH zk_5 (by decide) rfl (by decide) rfl (hN (.fieldLinkNest RX3 269 "Steamfield$Water" "tracer" "I" "Steamfield") (by decide +kernel)) (fun _ h9 => h9) dX3_drain_64 ?_
  refine lv_topi (fun x8 ex8 => ?_)
  refine lv_iload_n hx hb dX3_drain_67 rfl (lv_at hl 1 rfl) ?_
  refine z_cVi (D := (dC, dI)) (cl := vwCl) (tys := zt ca) (nw := zw_nest) (C := RX6) (As := [.int x8, .int a0]) (rest := [.ref (ad 10)]) ⟨hx, hb, hml, hown, hts⟩ (m_X6_shareOf l dC dI ca ad hI M7 5 zk_5 x8 a0) (cwV 2 hts gX3_drain_X6_shareOf rfl rfl rfl (by decide +kernel) ⟨Nat.le_of_ble_eq_true rfl, Nat.le_of_ble_eq_true rfl⟩) (z_recv (ci := 6) (i := 5) hK hH zk_5 (by decide) rfl) hH hK hN zw_nest_ok rfl hl.1 rfl (Nat.le_of_ble_eq_true rfl) dX3_drain_68 ⟨Nat.le_refl _, Nat.le_refl _⟩ hS (fun _ h => h) (fun H locs hB1 oq1 hz1 hS => ?_)
  have hH := hB1
  refine lv_topi (fun x9 ex9 => ?_)
  refine zp_iN (D := (dC, dI)) (cl := vwCl) (C := RX6) (T := TX6) (N := 4) (ci := 6) (k := 3) (ty := .int) hx hb hts hinX6 tyX6 tyX6_ok nmX6 hown hK hH hI hS (fun _ h => h) zk_10 (by decide) rfl (by decide) rfl (hN (.fieldLinkNest RX3 269 "Steamfield$Water" "tracer" "I" "Steamfield") (by decide +kernel)) (fun _ h9 => h9) rfl (by decide +kernel) rfl rfl dX3_drain_71 (fun H locs hH oq hS => ?_)
  obtain ⟨M10, hM10⟩ : ∃ z : zM, z = zu M7 10 3 x9 := ⟨_, rfl⟩
  rw [← hM10] at hH
  have hFx : z_Fx M M10 := hFx.tr (by rw [hM10]; exact (z_Fx.u zk_10 rfl))
  have hOk : z_Ok M10 := hOk0.fx hFx
  refine lv_aload_n hx hb dX3_drain_74 rfl (lv_at hl 0 rfl) ?_
  refine z_gr (D := (dC, dI)) (cl := vwCl) (C := RX3) (T := TX3) (N := 15) (ci := 3) (k := 4) hx hb hts hinX3 hown hK hH zk_0 (by decide) rfl (by decide) rfl (zr_0 (k := 4) (by decide)) (hts (.fieldLink RX3 38 "Steamfield$Land" "pond" "LSteamfield$Water;") (by decide +kernel)) (fun _ h9 => h9) dX3_drain_75 ?_
  refine lv_aload_n hx hb dX3_drain_78 rfl (lv_at hl 0 rfl) ?_
  refine z_gr (D := (dC, dI)) (cl := vwCl) (C := RX3) (T := TX3) (N := 15) (ci := 3) (k := 9) hx hb hts hinX3 hown hK hH zk_0 (by decide) rfl (by decide) rfl (zr_0 (k := 9) (by decide)) (hts (.fieldLink RX3 63 "Steamfield$Land" "load" "LSteamfield$Water;") (by decide +kernel)) (fun _ h9 => h9) dX3_drain_79 ?_
  refine z_cVv (D := (dC, dI)) (cl := vwCl) (tys := zt ca) (nw := zw_nest) (C := RX6) (As := [.ref (ad 10)]) (rest := []) ⟨hx, hb, hml, hown, hts⟩ (m_X6_remove l dC dI ca ad hI M10 5 zk_5 10 zk_10) (cwV 1 hts gX3_drain_X6_remove rfl rfl rfl (by decide +kernel) ⟨Nat.le_of_ble_eq_true rfl, Nat.le_of_ble_eq_true rfl⟩) (z_recv (ci := 6) (i := 5) hK hH zk_5 (by decide) rfl) hH hK hN zw_nest_ok rfl hl.1 rfl (Nat.le_of_ble_eq_true rfl) dX3_drain_82 ⟨Nat.le_refl _, Nat.le_refl _⟩ hS (fun _ h => h) (fun H locs hB1 oq1 hz1 hS => ?_)
  have hH := hB1
  obtain ⟨M11, hM11⟩ : ∃ z : zM, z = fX6_remove M10 5 10 := ⟨_, rfl⟩
  have hH : z_H (dC, dI) vwCl zf ca zd ad M11 H := by rw [hM11]; exact hH
  have hFx : z_Fx M M11 := hFx.tr (by rw [hM11]; exact (fx_X6_remove M10 5 zk_5 10 zk_10))
  have hOk : z_Ok M11 := hOk0.fx hFx
  have hF : zW dC dI ca ad (fX3_drain M a0) H := by
    have e9 : M11 = fX3_drain M a0 := by subst hM11; subst hM10; subst ex9; subst ex8; subst hM7; subst ex6; subst ex5; subst hM4; subst ex3; subst ex2; subst hM1; rfl
    rw [← e9]; exact hH
  have hFF : z_Fx M (fX3_drain M a0) := by
    have e9 : M11 = fX3_drain M a0 := by subst hM11; subst hM10; subst ex9; subst ex8; subst hM7; subst ex6; subst ex5; subst hM4; subst ex3; subst ex2; subst hM1; rfl
    rw [← e9]; exact hFx
  exact W.vret hx hb hr (fun t ht hW => ⟨⟨(), rfl, trivial, z_to (B := fun H => zW dC dI ca ad (fX3_drain M a0) H ∧ z_Fx M (fX3_drain M a0)) ht ⟨hF, hFF⟩⟩, hS.F ht⟩) hS.2.2 dX3_drain_85

def fX3_spill (M : zM)  : zM :=
  let x1 := M 5 0
  let x2 := x1 - 500
  let x3 := if x2 < 0 then 0 else x2
  let M4 := fX3_drain M x3
  let M5 := fX6_add M4 12 10
  M5
set_option maxHeartbeats 4000000 in
set_option maxRecDepth 100000 in
theorem m_X3_spill (l : Launch) (dC : Nat → ClassId) (dI : Nat → Nat → Nat) (ca : Nat → ClassId) (ad : Nat → Nat) (hI : z_I zd ad) (M : zM) (hOk0 : z_Ok M) : Met l yX3_spill wsX3_spill ({ frames := 2, cells := 0, slots := 0, locals := 43 }) (z_Pc (dC, dI) vwCl (zt ca) zw_nest [.ref (ad 0)] (fun H => zW dC dI ca ad M H)) (z_Qv (fun H => zW dC dI ca ad (fX3_spill M ) H ∧ z_Fx M (fX3_spill M )) (z_A zd ad)) 0 0 (z_A zd ad) := by
  refine Met.ofW (cc := cX3_spill) (maxL := 1) (ret := none) (by decide) rfl ?_
  intro p e s m args below meth c s₁ B hml hv
  obtain ⟨rfl, hH, hK, hN⟩ := hv
  have hx := B.exec
  have hb := B.bytes
  have hr := B.returns
  have hts := atoms_spec (ws := wsX3_spill) B.pre
  have hown : s.vm.findClass RX3 = some m.cls := findClass_of_methodNamed B.named
  have hlocks := B.notSynchronized
  have hS : va_S (z_A zd ad) s.heap s.heap [] := va_S.rf
  have hOk := hOk0
  have hFx : z_Fx M M := z_Fx.rf
  have hH : z_H (dC, dI) vwCl zf ca zd ad M s.heap := hH
  have hinX1 : ∀ w ∈ u_ws RX1 TX1 5, w ∈ wsX3_spill := by decide +kernel
  have hinX3 : ∀ w ∈ u_ws RX3 TX3 15, w ∈ wsX3_spill := by decide +kernel
  have hinX6 : ∀ w ∈ u_ws RX6 TX6 4, w ∈ wsX3_spill := by decide +kernel
  have hl := lv_entry ([.ref (ad 0)]) (n := 1) (Nat.le_of_ble_eq_true rfl)
  rw [lg_entry_eq]
  generalize (lg_sl ([.ref (ad 0)]) ++ List.replicate (1 - (lg_sl ([.ref (ad 0)])).length) Slot.unset).toArray = ls at hl ⊢
  have hl : lv_has ls 1 [(0, .ref (ad 0))] := hl
  refine lv_aload_n hx hb dX3_spill_0 rfl (lv_at hl 0 rfl) ?_
  refine lv_aload_n hx hb dX3_spill_1 rfl (lv_at hl 0 rfl) ?_
  refine z_gr (D := (dC, dI)) (cl := vwCl) (C := RX3) (T := TX3) (N := 15) (ci := 3) (k := 4) hx hb hts hinX3 hown hK hH zk_0 (by decide) rfl (by decide) rfl (zr_0 (k := 4) (by decide)) (hts (.fieldLink RX3 38 "Steamfield$Land" "pond" "LSteamfield$Water;") (by decide +kernel)) (fun _ h9 => h9) dX3_spill_2 ?_
  refine z_giN (D := (dC, dI)) (cl := vwCl) (C := RX6) (T := TX6) (N := 4) (ci := 6) (k := 0) hx hb hts hinX6 hown hK hH zk_5 (by decide) rfl (by decide) rfl (hN (.fieldLinkNest RX3 204 "Steamfield$Water" "mass" "I" "Steamfield") (by decide +kernel)) (fun _ h9 => h9) dX3_spill_5 ?_
  refine lv_topi (fun x1 ex1 => ?_)
  refine lv_sipush (v := 500) hx hb dX3_spill_8 (by decide) ?_
  refine lv_isub hx hb dX3_spill_11 ?_
  refine lv_topi (fun x2 ex2 => ?_)
  refine lv_iconst (v := 0) hx hb dX3_spill_12 (by decide) ?_
  refine va_mmax hx hb (hml.trans hl.1.symm) hown (hts (.methodLink RX3 226 Lib.Math.max.name) (by decide +kernel)) (hts (.static Lib.Math.max.name) (by decide +kernel)) (hts (.initialized "java/lang/Math") (by decide +kernel)) (hts (.code Lib.Math.max.name Lib.Math.max.code 2 (some .int)) (by decide +kernel)) (Nat.le_of_ble_eq_true rfl) (Nat.le_of_ble_eq_true rfl) (Nat.le_refl _) (Nat.le_refl _) dX3_spill_13 ?_
  refine lv_topi (fun x3 ex3 => ?_)
  refine z_cVv (D := (dC, dI)) (cl := vwCl) (tys := zt ca) (nw := zw_nest) (C := RX3) (As := [.int x3]) (rest := []) ⟨hx, hb, hml, hown, hts⟩ (m_X3_drain l dC dI ca ad hI M x3 hOk) (cwV 1 hts gX3_spill_X3_drain rfl rfl rfl (by decide +kernel) ⟨Nat.le_of_ble_eq_true rfl, Nat.le_of_ble_eq_true rfl⟩) (z_recv (ci := 3) (i := 0) hK hH zk_0 (by decide) rfl) hH hK hN zw_nest_ok rfl hl.1 rfl (Nat.le_of_ble_eq_true rfl) dX3_spill_16 ⟨Nat.le_refl _, Nat.le_refl _⟩ hS (fun _ h => h) (fun H locs hB1 oq1 hz1 hS => ?_)
  obtain ⟨hH, hFc⟩ := hB1
  obtain ⟨M4, hM4⟩ : ∃ z : zM, z = fX3_drain M x3 := ⟨_, rfl⟩
  have hH : z_H (dC, dI) vwCl zf ca zd ad M4 H := by rw [hM4]; exact hH
  have hFx : z_Fx M M4 := hFx.tr (by rw [hM4]; exact hFc)
  have hOk : z_Ok M4 := hOk0.fx hFx
  refine lv_aload_n hx hb dX3_spill_19 rfl (lv_at hl 0 rfl) ?_
  refine z_gr (D := (dC, dI)) (cl := vwCl) (C := RX3) (T := TX3) (N := 15) (ci := 3) (k := 6) hx hb hts hinX3 hown hK hH zk_0 (by decide) rfl (by decide) rfl (zr_0 (k := 6) (by decide)) (hts (.fieldLink RX3 52 "Steamfield$Land" "books" "LSteamfield$Books;") (by decide +kernel)) (fun _ h9 => h9) dX3_spill_20 ?_
  refine z_grN (D := (dC, dI)) (cl := vwCl) (C := RX1) (T := TX1) (N := 5) (ci := 1) (k := 1) hx hb hts hinX1 hown hK hH zk_7 (by decide) rfl (by decide) rfl (zr_7 (k := 1) (by decide)) (hN (.fieldLinkNest RX3 133 "Steamfield$Books" "spilled" "LSteamfield$Water;" "Steamfield") (by decide +kernel)) (fun _ h9 => h9) dX3_spill_23 ?_
  refine lv_aload_n hx hb dX3_spill_26 rfl (lv_at hl 0 rfl) ?_
  refine z_gr (D := (dC, dI)) (cl := vwCl) (C := RX3) (T := TX3) (N := 15) (ci := 3) (k := 9) hx hb hts hinX3 hown hK hH zk_0 (by decide) rfl (by decide) rfl (zr_0 (k := 9) (by decide)) (hts (.fieldLink RX3 63 "Steamfield$Land" "load" "LSteamfield$Water;") (by decide +kernel)) (fun _ h9 => h9) dX3_spill_27 ?_
  refine z_cVv (D := (dC, dI)) (cl := vwCl) (tys := zt ca) (nw := zw_nest) (C := RX6) (As := [.ref (ad 10)]) (rest := []) ⟨hx, hb, hml, hown, hts⟩ (m_X6_add l dC dI ca ad hI M4 12 zk_12 10 zk_10) (cwV 1 hts gX3_spill_X6_add rfl rfl rfl (by decide +kernel) ⟨Nat.le_of_ble_eq_true rfl, Nat.le_of_ble_eq_true rfl⟩) (z_recv (ci := 6) (i := 12) hK hH zk_12 (by decide) rfl) hH hK hN zw_nest_ok rfl hl.1 rfl (Nat.le_of_ble_eq_true rfl) dX3_spill_30 ⟨Nat.le_refl _, Nat.le_refl _⟩ hS (fun _ h => h) (fun H locs hB1 oq1 hz1 hS => ?_)
  have hH := hB1
  obtain ⟨M5, hM5⟩ : ∃ z : zM, z = fX6_add M4 12 10 := ⟨_, rfl⟩
  have hH : z_H (dC, dI) vwCl zf ca zd ad M5 H := by rw [hM5]; exact hH
  have hFx : z_Fx M M5 := hFx.tr (by rw [hM5]; exact (fx_X6_add M4 12 zk_12 10 zk_10))
  have hOk : z_Ok M5 := hOk0.fx hFx
  have hF : zW dC dI ca ad (fX3_spill M ) H := by
    have e9 : M5 = fX3_spill M  := by subst hM5; subst hM4; subst ex3; subst ex2; subst ex1; rfl
    rw [← e9]; exact hH
  have hFF : z_Fx M (fX3_spill M ) := by
    have e9 : M5 = fX3_spill M  := by subst hM5; subst hM4; subst ex3; subst ex2; subst ex1; rfl
    rw [← e9]; exact hFx
  exact W.vret hx hb hr (fun t ht hW => ⟨⟨(), rfl, trivial, z_to (B := fun H => zW dC dI ca ad (fX3_spill M ) H ∧ z_Fx M (fX3_spill M )) ht ⟨hF, hFF⟩⟩, hS.F ht⟩) hS.2.2 dX3_spill_33

def fX3_flowThrough (M : zM) (f : Nat) : zM :=
  let x1 := M (40 + f) 0
  let x2 := M (40 + f) 1
  let x3 := rX0_pressure M x1.toNatClampNeg
  let x4 := rX0_pressure M x2.toNatClampNeg
  let x5 := x3 - x4
  let u7 := if x5 < 0 then x2.toNatClampNeg else x1.toNatClampNeg
  let u10 := if x5 < 0 then x1.toNatClampNeg else x2.toNatClampNeg
  let x12 := if 0 ≤ x5 then x5 else 0 - x5
  let x13 := M (40 + f) 2
  let x14 := x12 * x13
  let x15 := x14 / 20
  let M16 := fX0_take M u7 x15 10
  let M17 := fX6_add M16 (30 + u10) 10
  let x19 := if x5 < 0 then (let x19 := M17 10 0; let x20 := 0 - x19; x20) else (let x19 := M17 10 0; x19)
  let M21 := zu M17 (40 + f) 3 x19
  let x22 := rX0_warmth M21 x1.toNatClampNeg
  let x23 := rX0_warmth M21 x2.toNatClampNeg
  let x24 := x22 - x23
  let x25 := M21 (40 + f) 2
  let x26 := x24 * x25
  let x27 := M21 (30 + x1.toNatClampNeg) 1
  let x28 := x27 - x26
  let M29 := zu M21 (30 + x1.toNatClampNeg) 1 x28
  let x30 := M29 (30 + x2.toNatClampNeg) 1
  let x31 := x30 + x26
  let M32 := zu M29 (30 + x2.toNatClampNeg) 1 x31
  let M34 := if x12 < 50 then M32 else (let x34 := M32 (40 + f) 2; let x35 := x34 + 1; let x36 := if 9 < x35 then 9 else x35; let M37 := zu M32 (40 + f) 2 x36; M37)
  M34
set_option maxHeartbeats 4000000 in
set_option maxRecDepth 100000 in
theorem m_X3_flowThrough (l : Launch) (dC : Nat → ClassId) (dI : Nat → Nat → Nat) (ca : Nat → ClassId) (ad : Nat → Nat) (hI : z_I zd ad) (M : zM) (f : Nat) (h_f : f < 12) (hOk0 : z_Ok M) : Met l yX3_flowThrough wsX3_flowThrough ({ frames := 2, cells := 0, slots := 0, locals := 45 }) (z_Pc (dC, dI) vwCl (zt ca) zw_nest [.ref (ad 0), .ref (ad (40 + f))] (fun H => zW dC dI ca ad M H)) (z_Qv (fun H => zW dC dI ca ad (fX3_flowThrough M f) H ∧ z_Fx M (fX3_flowThrough M f)) (z_A zd ad)) 0 0 (z_A zd ad) := by
  refine Met.ofW (cc := cX3_flowThrough) (maxL := 9) (ret := none) (by decide) rfl ?_
  intro p e s m args below meth c s₁ B hml hv
  obtain ⟨rfl, hH, hK, hN⟩ := hv
  have hx := B.exec
  have hb := B.bytes
  have hr := B.returns
  have hts := atoms_spec (ws := wsX3_flowThrough) B.pre
  have hown : s.vm.findClass RX3 = some m.cls := findClass_of_methodNamed B.named
  have hlocks := B.notSynchronized
  have hS : va_S (z_A zd ad) s.heap s.heap [] := va_S.rf
  have hOk := hOk0
  have hFx : z_Fx M M := z_Fx.rf
  have hH : z_H (dC, dI) vwCl zf ca zd ad M s.heap := hH
  have hinX0 : ∀ w ∈ u_ws RX0 TX0 3, w ∈ wsX3_flowThrough := by decide +kernel
  have hinX2 : ∀ w ∈ u_ws RX2 TX2 4, w ∈ wsX3_flowThrough := by decide +kernel
  have hinX3 : ∀ w ∈ u_ws RX3 TX3 15, w ∈ wsX3_flowThrough := by decide +kernel
  have hinX6 : ∀ w ∈ u_ws RX6 TX6 4, w ∈ wsX3_flowThrough := by decide +kernel
  have hl := lv_entry ([.ref (ad 0), .ref (ad (40 + f))]) (n := 9) (Nat.le_of_ble_eq_true rfl)
  rw [lg_entry_eq]
  generalize (lg_sl ([.ref (ad 0), .ref (ad (40 + f))]) ++ List.replicate (9 - (lg_sl ([.ref (ad 0), .ref (ad (40 + f))])).length) Slot.unset).toArray = ls at hl ⊢
  have hl : lv_has ls 9 [(0, .ref (ad 0)), (1, .ref (ad (40 + f)))] := hl
  refine lv_aload_n hx hb dX3_flowThrough_0 rfl (lv_at hl 0 rfl) ?_
  refine z_gr (D := (dC, dI)) (cl := vwCl) (C := RX3) (T := TX3) (N := 15) (ci := 3) (k := 0) hx hb hts hinX3 hown hK hH zk_0 (by decide) rfl (by decide) rfl (zr_0 (k := 0) (by decide)) (hts (.fieldLink RX3 11 "Steamfield$Land" "blocks" "[LSteamfield$Block;") (by decide +kernel)) (fun _ h9 => h9) dX3_flowThrough_1 ?_
  refine lv_aload_n hx hb dX3_flowThrough_4 rfl (lv_at hl 1 rfl) ?_
  refine z_giN (D := (dC, dI)) (cl := vwCl) (C := RX2) (T := TX2) (N := 4) (ci := 2) (k := 0) hx hb hts hinX2 hown hK hH (zk_f h_f) (by decide) rfl (by decide) rfl (hN (.fieldLinkNest RX3 180 "Steamfield$Face" "one" "I" "Steamfield") (by decide +kernel)) (fun _ h9 => h9) dX3_flowThrough_5 ?_
  refine lv_topi (fun x1 ex1 => ?_)
  have hx1 : z_ix x1 8 := by rw [ex1]; exact z_Ok.one hOk h_f
  refine z_aq (t0 := 1) (D := (dC, dI)) (cl := vwCl) (tys := zt ca) hx hb hK hH zk_1 (by decide) (by decide) rfl (show vp_in x1 8 from (z_ix.in hx1)) (show zr 1 (x1 : Int32).toNatClampNeg = some (20 + x1.toNatClampNeg) from zr_1 (z_ix.lt hx1)) dX3_flowThrough_8 ?_
  refine lv_astore_n (lv' := [(2, .ref (ad (20 + x1.toNatClampNeg))), (0, .ref (ad 0)), (1, .ref (ad (40 + f)))]) hx hb dX3_flowThrough_9 rfl hl (by decide) rfl (fun ls hl => ?_)
  refine lv_aload_n hx hb dX3_flowThrough_10 rfl (lv_at hl 1 rfl) ?_
  refine z_gr (D := (dC, dI)) (cl := vwCl) (C := RX3) (T := TX3) (N := 15) (ci := 3) (k := 0) hx hb hts hinX3 hown hK hH zk_0 (by decide) rfl (by decide) rfl (zr_0 (k := 0) (by decide)) (hts (.fieldLink RX3 11 "Steamfield$Land" "blocks" "[LSteamfield$Block;") (by decide +kernel)) (fun _ h9 => h9) dX3_flowThrough_11 ?_
  refine lv_aload_n hx hb dX3_flowThrough_14 rfl (lv_at hl 2 rfl) ?_
  refine z_giN (D := (dC, dI)) (cl := vwCl) (C := RX2) (T := TX2) (N := 4) (ci := 2) (k := 1) hx hb hts hinX2 hown hK hH (zk_f h_f) (by decide) rfl (by decide) rfl (hN (.fieldLinkNest RX3 183 "Steamfield$Face" "other" "I" "Steamfield") (by decide +kernel)) (fun _ h9 => h9) dX3_flowThrough_15 ?_
  refine lv_topi (fun x2 ex2 => ?_)
  have hx2 : z_ix x2 8 := by rw [ex2]; exact z_Ok.other hOk h_f
  refine z_aq (t0 := 1) (D := (dC, dI)) (cl := vwCl) (tys := zt ca) hx hb hK hH zk_1 (by decide) (by decide) rfl (show vp_in x2 8 from (z_ix.in hx2)) (show zr 1 (x2 : Int32).toNatClampNeg = some (20 + x2.toNatClampNeg) from zr_1 (z_ix.lt hx2)) dX3_flowThrough_18 ?_
  refine lv_astore_n (lv' := [(3, .ref (ad (20 + x2.toNatClampNeg))), (2, .ref (ad (20 + x1.toNatClampNeg))), (0, .ref (ad 0)), (1, .ref (ad (40 + f)))]) hx hb dX3_flowThrough_19 rfl hl (by decide) rfl (fun ls hl => ?_)
  refine lv_aload_n hx hb dX3_flowThrough_20 rfl (lv_at hl 1 rfl) ?_
  refine z_cVi (D := (dC, dI)) (cl := vwCl) (tys := zt ca) (nw := zw_nest) (C := RX0) (As := []) (rest := []) ⟨hx, hb, hml, hown, hts⟩ (m_X0_pressure l dC dI ca ad hI M x1.toNatClampNeg (z_ix.lt hx1)) (cwV 0 hts gX3_flowThrough_X0_pressure rfl rfl rfl (by decide +kernel) ⟨Nat.le_of_ble_eq_true rfl, Nat.le_of_ble_eq_true rfl⟩) (z_recv (ci := 0) (i := (20 + x1.toNatClampNeg)) hK hH (zk_b (z_ix.lt hx1)) (by decide) rfl) hH hK hN zw_nest_ok rfl hl.1 rfl (Nat.le_of_ble_eq_true rfl) dX3_flowThrough_21 ⟨Nat.le_refl _, Nat.le_refl _⟩ hS (fun _ h => h) (fun H locs hB1 oq1 hz1 hS => ?_)
  have hH := hB1
  refine lv_topi (fun x3 ex3 => ?_)
  refine lv_aload_n hx hb dX3_flowThrough_24 rfl (lv_at hl 0 rfl) ?_
  refine z_cVi (D := (dC, dI)) (cl := vwCl) (tys := zt ca) (nw := zw_nest) (C := RX0) (As := []) (rest := [.int x3]) ⟨hx, hb, hml, hown, hts⟩ (m_X0_pressure l dC dI ca ad hI M x2.toNatClampNeg (z_ix.lt hx2)) (cwV 0 hts gX3_flowThrough_X0_pressure rfl rfl rfl (by decide +kernel) ⟨Nat.le_of_ble_eq_true rfl, Nat.le_of_ble_eq_true rfl⟩) (z_recv (ci := 0) (i := (20 + x2.toNatClampNeg)) hK hH (zk_b (z_ix.lt hx2)) (by decide) rfl) hH hK hN zw_nest_ok rfl hl.1 rfl (Nat.le_of_ble_eq_true rfl) dX3_flowThrough_25 ⟨Nat.le_refl _, Nat.le_refl _⟩ hS (fun _ h => h) (fun H locs hB1 oq1 hz1 hS => ?_)
  have hH := hB1
  refine lv_topi (fun x4 ex4 => ?_)
  refine lv_isub hx hb dX3_flowThrough_28 ?_
  refine lv_topi (fun x5 ex5 => ?_)
  refine lv_istore (lv' := [(4, .int x5), (3, .ref (ad (20 + x2.toNatClampNeg))), (2, .ref (ad (20 + x1.toNatClampNeg))), (0, .ref (ad 0)), (1, .ref (ad (40 + f)))]) hx hb dX3_flowThrough_29 hl (by decide) rfl (fun ls hl => ?_)
  refine lv_iload hx hb dX3_flowThrough_31 (lv_at hl 0 rfl) ?_
  have J8 : ∀ u7 : Nat, u7 = (if x5 < 0 then x2.toNatClampNeg else x1.toNatClampNeg) → u7 < 8 → ∀ ls : Array Slot, lv_has ls 9 [(0, .ref (ad 0)), (1, .ref (ad (40 + f))), (2, .ref (ad (20 + x1.toNatClampNeg))), (3, .ref (ad (20 + x2.toNatClampNeg))), (4, .int x5)] → W p l e (headSpec wsX3_flowThrough ({ frames := 2, cells := 0, slots := 0, locals := 45 })).room s m ([.ref (ad 0), .ref (ad (40 + f))] : List Value).toArray below meth c H locs 0 0 (MQ below (z_Qv (fun H => zW dC dI ca ad (fX3_flowThrough M f) H ∧ z_Fx M (fX3_flowThrough M f)) (z_A zd ad)) ([.ref (ad 0), .ref (ad (40 + f))] : List Value).toArray s 0 0 (z_A zd ad)) (F0 m 41 ls [.ref (ad (20 + u7))]) := by
    intro u7 eu7 h_u7 ls hl
    refine lv_astore (lv' := [(5, .ref (ad (20 + u7))), (0, .ref (ad 0)), (1, .ref (ad (40 + f))), (2, .ref (ad (20 + x1.toNatClampNeg))), (3, .ref (ad (20 + x2.toNatClampNeg))), (4, .int x5)]) hx hb dX3_flowThrough_41 hl (by decide) rfl (fun ls hl => ?_)
    refine lv_iload hx hb dX3_flowThrough_43 (lv_at hl 5 rfl) ?_
    have J11 : ∀ u10 : Nat, u10 = (if x5 < 0 then x1.toNatClampNeg else x2.toNatClampNeg) → u10 < 8 → ∀ ls : Array Slot, lv_has ls 9 [(0, .ref (ad 0)), (1, .ref (ad (40 + f))), (2, .ref (ad (20 + x1.toNatClampNeg))), (3, .ref (ad (20 + x2.toNatClampNeg))), (4, .int x5), (5, .ref (ad (20 + u7)))] → W p l e (headSpec wsX3_flowThrough ({ frames := 2, cells := 0, slots := 0, locals := 45 })).room s m ([.ref (ad 0), .ref (ad (40 + f))] : List Value).toArray below meth c H locs 0 0 (MQ below (z_Qv (fun H => zW dC dI ca ad (fX3_flowThrough M f) H ∧ z_Fx M (fX3_flowThrough M f)) (z_A zd ad)) ([.ref (ad 0), .ref (ad (40 + f))] : List Value).toArray s 0 0 (z_A zd ad)) (F0 m 53 ls [.ref (ad (20 + u10))]) := by
      intro u10 eu10 h_u10 ls hl
      refine lv_astore (lv' := [(6, .ref (ad (20 + u10))), (0, .ref (ad 0)), (1, .ref (ad (40 + f))), (2, .ref (ad (20 + x1.toNatClampNeg))), (3, .ref (ad (20 + x2.toNatClampNeg))), (4, .int x5), (5, .ref (ad (20 + u7)))]) hx hb dX3_flowThrough_53 hl (by decide) rfl (fun ls hl => ?_)
      refine lv_iload hx hb dX3_flowThrough_55 (lv_at hl 5 rfl) ?_
      refine va_mabs hx hb (hml.trans hl.1.symm) hown (hts (.methodLink RX3 189 Lib.Math.abs.name) (by decide +kernel)) (hts (.static Lib.Math.abs.name) (by decide +kernel)) (hts (.initialized "java/lang/Math") (by decide +kernel)) (hts (.code Lib.Math.abs.name Lib.Math.abs.code 1 (some .int)) (by decide +kernel)) (Nat.le_of_ble_eq_true rfl) (Nat.le_of_ble_eq_true rfl) (Nat.le_refl _) (Nat.le_refl _) dX3_flowThrough_57 ?_
      refine lv_topi (fun x12 ex12 => ?_)
      refine lv_istore (lv' := [(7, .int x12), (6, .ref (ad (20 + u10))), (0, .ref (ad 0)), (1, .ref (ad (40 + f))), (2, .ref (ad (20 + x1.toNatClampNeg))), (3, .ref (ad (20 + x2.toNatClampNeg))), (4, .int x5), (5, .ref (ad (20 + u7)))]) hx hb dX3_flowThrough_60 hl (by decide) rfl (fun ls hl => ?_)
      refine lv_aload hx hb dX3_flowThrough_62 (lv_at hl 7 rfl) ?_
      refine lv_iload hx hb dX3_flowThrough_64 (lv_at hl 0 rfl) ?_
      refine lv_aload_n hx hb dX3_flowThrough_66 rfl (lv_at hl 3 rfl) ?_
      refine z_giN (D := (dC, dI)) (cl := vwCl) (C := RX2) (T := TX2) (N := 4) (ci := 2) (k := 2) hx hb hts hinX2 hown hK hH (zk_f h_f) (by decide) rfl (by decide) rfl (hN (.fieldLinkNest RX3 194 "Steamfield$Face" "open" "I" "Steamfield") (by decide +kernel)) (fun _ h9 => h9) dX3_flowThrough_67 ?_
      refine lv_topi (fun x13 ex13 => ?_)
      refine lv_imul hx hb dX3_flowThrough_70 ?_
      refine lv_topi (fun x14 ex14 => ?_)
      refine lv_bipush (v := 20) hx hb dX3_flowThrough_71 (by decide) ?_
      refine lv_idiv hx hb dX3_flowThrough_73 (by decide) ?_
      refine lv_topi (fun x15 ex15 => ?_)
      refine lv_aload_n hx hb dX3_flowThrough_74 rfl (lv_at hl 2 rfl) ?_
      refine z_gr (D := (dC, dI)) (cl := vwCl) (C := RX3) (T := TX3) (N := 15) (ci := 3) (k := 9) hx hb hts hinX3 hown hK hH zk_0 (by decide) rfl (by decide) rfl (zr_0 (k := 9) (by decide)) (hts (.fieldLink RX3 63 "Steamfield$Land" "load" "LSteamfield$Water;") (by decide +kernel)) (fun _ h9 => h9) dX3_flowThrough_75 ?_
      refine z_cVv (D := (dC, dI)) (cl := vwCl) (tys := zt ca) (nw := zw_nest) (C := RX0) (As := [.int x15, .ref (ad 10)]) (rest := []) ⟨hx, hb, hml, hown, hts⟩ (m_X0_take l dC dI ca ad hI M u7 h_u7 x15 10 zk_10) (cwV 2 hts gX3_flowThrough_X0_take rfl rfl rfl (by decide +kernel) ⟨Nat.le_of_ble_eq_true rfl, Nat.le_of_ble_eq_true rfl⟩) (z_recv (ci := 0) (i := (20 + u7)) hK hH (zk_b h_u7) (by decide) rfl) hH hK hN zw_nest_ok rfl hl.1 rfl (Nat.le_of_ble_eq_true rfl) dX3_flowThrough_78 ⟨Nat.le_refl _, Nat.le_refl _⟩ hS (fun _ h => h) (fun H locs hB1 oq1 hz1 hS => ?_)
      have hH := hB1
      obtain ⟨M16, hM16⟩ : ∃ z : zM, z = fX0_take M u7 x15 10 := ⟨_, rfl⟩
      have hH : z_H (dC, dI) vwCl zf ca zd ad M16 H := by rw [hM16]; exact hH
      have hFx : z_Fx M M16 := hFx.tr (by rw [hM16]; exact (fx_X0_take M u7 h_u7 x15 10 zk_10))
      have hOk : z_Ok M16 := hOk0.fx hFx
      refine lv_aload hx hb dX3_flowThrough_81 (lv_at hl 1 rfl) ?_
      refine z_grN (D := (dC, dI)) (cl := vwCl) (C := RX0) (T := TX0) (N := 3) (ci := 0) (k := 0) hx hb hts hinX0 hown hK hH (zk_b h_u10) (by decide) rfl (by decide) rfl (zr_b h_u10) (hN (.fieldLinkNest RX3 123 "Steamfield$Block" "water" "LSteamfield$Water;" "Steamfield") (by decide +kernel)) (fun _ h9 => h9) dX3_flowThrough_83 ?_
      refine lv_aload_n hx hb dX3_flowThrough_86 rfl (lv_at hl 2 rfl) ?_
      refine z_gr (D := (dC, dI)) (cl := vwCl) (C := RX3) (T := TX3) (N := 15) (ci := 3) (k := 9) hx hb hts hinX3 hown hK hH zk_0 (by decide) rfl (by decide) rfl (zr_0 (k := 9) (by decide)) (hts (.fieldLink RX3 63 "Steamfield$Land" "load" "LSteamfield$Water;") (by decide +kernel)) (fun _ h9 => h9) dX3_flowThrough_87 ?_
      refine z_cVv (D := (dC, dI)) (cl := vwCl) (tys := zt ca) (nw := zw_nest) (C := RX6) (As := [.ref (ad 10)]) (rest := []) ⟨hx, hb, hml, hown, hts⟩ (m_X6_add l dC dI ca ad hI M16 (30 + u10) (zk_w h_u10) 10 zk_10) (cwV 1 hts gX3_flowThrough_X6_add rfl rfl rfl (by decide +kernel) ⟨Nat.le_of_ble_eq_true rfl, Nat.le_of_ble_eq_true rfl⟩) (z_recv (ci := 6) (i := (30 + u10)) hK hH (zk_w h_u10) (by decide) rfl) hH hK hN zw_nest_ok rfl hl.1 rfl (Nat.le_of_ble_eq_true rfl) dX3_flowThrough_90 ⟨Nat.le_refl _, Nat.le_refl _⟩ hS (fun _ h => h) (fun H locs hB1 oq1 hz1 hS => ?_)
      have hH := hB1
      obtain ⟨M17, hM17⟩ : ∃ z : zM, z = fX6_add M16 (30 + u10) 10 := ⟨_, rfl⟩
      have hH : z_H (dC, dI) vwCl zf ca zd ad M17 H := by rw [hM17]; exact hH
      have hFx : z_Fx M M17 := hFx.tr (by rw [hM17]; exact (fx_X6_add M16 (30 + u10) (zk_w h_u10) 10 zk_10))
      have hOk : z_Ok M17 := hOk0.fx hFx
      refine lv_aload_n hx hb dX3_flowThrough_93 rfl (lv_at hl 3 rfl) ?_
      refine lv_iload hx hb dX3_flowThrough_94 (lv_at hl 6 rfl) ?_
      have J20 : ∀ x19 : Int32, x19 = (if x5 < 0 then (let x19 := M17 10 0; let x20 := 0 - x19; x20) else (let x19 := M17 10 0; x19)) → ∀ ls : Array Slot, lv_has ls 9 [(0, .ref (ad 0)), (1, .ref (ad (40 + f))), (2, .ref (ad (20 + x1.toNatClampNeg))), (3, .ref (ad (20 + x2.toNatClampNeg))), (4, .int x5), (5, .ref (ad (20 + u7))), (6, .ref (ad (20 + u10))), (7, .int x12)] → W p l e (headSpec wsX3_flowThrough ({ frames := 2, cells := 0, slots := 0, locals := 45 })).room s m ([.ref (ad 0), .ref (ad (40 + f))] : List Value).toArray below meth c H locs 0 0 (MQ below (z_Qv (fun H => zW dC dI ca ad (fX3_flowThrough M f) H ∧ z_Fx M (fX3_flowThrough M f)) (z_A zd ad)) ([.ref (ad 0), .ref (ad (40 + f))] : List Value).toArray s 0 0 (z_A zd ad)) (F0 m 117 ls [.int x19, .ref (ad (40 + f))]) := by
        intro x19 ex19 ls hl
        refine zp_iN (D := (dC, dI)) (cl := vwCl) (C := RX2) (T := TX2) (N := 4) (ci := 2) (k := 3) (ty := .int) hx hb hts hinX2 tyX2 tyX2_ok nmX2 hown hK hH hI hS (fun _ h => h) (zk_f h_f) (by decide) rfl (by decide) rfl (hN (.fieldLinkNest RX3 207 "Steamfield$Face" "flow" "I" "Steamfield") (by decide +kernel)) (fun _ h9 => h9) rfl (by decide +kernel) rfl rfl dX3_flowThrough_117 (fun H locs hH oq hS => ?_)
        obtain ⟨M21, hM21⟩ : ∃ z : zM, z = zu M17 (40 + f) 3 x19 := ⟨_, rfl⟩
        rw [← hM21] at hH
        have hFx : z_Fx M M21 := hFx.tr (by rw [hM21]; exact (z_Fx.u (zk_f h_f) rfl))
        have hOk : z_Ok M21 := hOk0.fx hFx
        refine lv_aload_n hx hb dX3_flowThrough_120 rfl (lv_at hl 2 rfl) ?_
        refine z_cVi (D := (dC, dI)) (cl := vwCl) (tys := zt ca) (nw := zw_nest) (C := RX0) (As := []) (rest := []) ⟨hx, hb, hml, hown, hts⟩ (m_X0_warmth l dC dI ca ad hI M21 x1.toNatClampNeg (z_ix.lt hx1)) (cwV 0 hts gX3_flowThrough_X0_warmth rfl rfl rfl (by decide +kernel) ⟨Nat.le_of_ble_eq_true rfl, Nat.le_of_ble_eq_true rfl⟩) (z_recv (ci := 0) (i := (20 + x1.toNatClampNeg)) hK hH (zk_b (z_ix.lt hx1)) (by decide) rfl) hH hK hN zw_nest_ok rfl hl.1 rfl (Nat.le_of_ble_eq_true rfl) dX3_flowThrough_121 ⟨Nat.le_refl _, Nat.le_refl _⟩ hS (fun _ h => h) (fun H locs hB1 oq1 hz1 hS => ?_)
        have hH := hB1
        refine lv_topi (fun x22 ex22 => ?_)
        refine lv_aload_n hx hb dX3_flowThrough_124 rfl (lv_at hl 3 rfl) ?_
        refine z_cVi (D := (dC, dI)) (cl := vwCl) (tys := zt ca) (nw := zw_nest) (C := RX0) (As := []) (rest := [.int x22]) ⟨hx, hb, hml, hown, hts⟩ (m_X0_warmth l dC dI ca ad hI M21 x2.toNatClampNeg (z_ix.lt hx2)) (cwV 0 hts gX3_flowThrough_X0_warmth rfl rfl rfl (by decide +kernel) ⟨Nat.le_of_ble_eq_true rfl, Nat.le_of_ble_eq_true rfl⟩) (z_recv (ci := 0) (i := (20 + x2.toNatClampNeg)) hK hH (zk_b (z_ix.lt hx2)) (by decide) rfl) hH hK hN zw_nest_ok rfl hl.1 rfl (Nat.le_of_ble_eq_true rfl) dX3_flowThrough_125 ⟨Nat.le_refl _, Nat.le_refl _⟩ hS (fun _ h => h) (fun H locs hB1 oq1 hz1 hS => ?_)
        have hH := hB1
        refine lv_topi (fun x23 ex23 => ?_)
        refine lv_isub hx hb dX3_flowThrough_128 ?_
        refine lv_topi (fun x24 ex24 => ?_)
        refine lv_aload_n hx hb dX3_flowThrough_129 rfl (lv_at hl 1 rfl) ?_
        refine z_giN (D := (dC, dI)) (cl := vwCl) (C := RX2) (T := TX2) (N := 4) (ci := 2) (k := 2) hx hb hts hinX2 hown hK hH (zk_f h_f) (by decide) rfl (by decide) rfl (hN (.fieldLinkNest RX3 194 "Steamfield$Face" "open" "I" "Steamfield") (by decide +kernel)) (fun _ h9 => h9) dX3_flowThrough_130 ?_
        refine lv_topi (fun x25 ex25 => ?_)
        refine lv_imul hx hb dX3_flowThrough_133 ?_
        refine lv_topi (fun x26 ex26 => ?_)
        refine lv_istore (lv' := [(8, .int x26), (0, .ref (ad 0)), (1, .ref (ad (40 + f))), (2, .ref (ad (20 + x1.toNatClampNeg))), (3, .ref (ad (20 + x2.toNatClampNeg))), (4, .int x5), (5, .ref (ad (20 + u7))), (6, .ref (ad (20 + u10))), (7, .int x12)]) hx hb dX3_flowThrough_134 hl (by decide) rfl (fun ls hl => ?_)
        refine lv_aload_n hx hb dX3_flowThrough_136 rfl (lv_at hl 3 rfl) ?_
        refine z_grN (D := (dC, dI)) (cl := vwCl) (C := RX0) (T := TX0) (N := 3) (ci := 0) (k := 0) hx hb hts hinX0 hown hK hH (zk_b (z_ix.lt hx1)) (by decide) rfl (by decide) rfl (zr_b (z_ix.lt hx1)) (hN (.fieldLinkNest RX3 123 "Steamfield$Block" "water" "LSteamfield$Water;" "Steamfield") (by decide +kernel)) (fun _ h9 => h9) dX3_flowThrough_137 ?_
        refine lv_dup hx hb dX3_flowThrough_140 rfl ?_
        refine z_giN (D := (dC, dI)) (cl := vwCl) (C := RX6) (T := TX6) (N := 4) (ci := 6) (k := 1) hx hb hts hinX6 hown hK hH (zk_w (z_ix.lt hx1)) (by decide) rfl (by decide) rfl (hN (.fieldLinkNest RX3 213 "Steamfield$Water" "heat" "I" "Steamfield") (by decide +kernel)) (fun _ h9 => h9) dX3_flowThrough_141 ?_
        refine lv_topi (fun x27 ex27 => ?_)
        refine lv_iload hx hb dX3_flowThrough_144 (lv_at hl 0 rfl) ?_
        refine lv_isub hx hb dX3_flowThrough_146 ?_
        refine lv_topi (fun x28 ex28 => ?_)
        refine zp_iN (D := (dC, dI)) (cl := vwCl) (C := RX6) (T := TX6) (N := 4) (ci := 6) (k := 1) (ty := .int) hx hb hts hinX6 tyX6 tyX6_ok nmX6 hown hK hH hI hS (fun _ h => h) (zk_w (z_ix.lt hx1)) (by decide) rfl (by decide) rfl (hN (.fieldLinkNest RX3 213 "Steamfield$Water" "heat" "I" "Steamfield") (by decide +kernel)) (fun _ h9 => h9) rfl (by decide +kernel) rfl rfl dX3_flowThrough_147 (fun H locs hH oq hS => ?_)
        obtain ⟨M29, hM29⟩ : ∃ z : zM, z = zu M21 (30 + x1.toNatClampNeg) 1 x28 := ⟨_, rfl⟩
        rw [← hM29] at hH
        have hFx : z_Fx M M29 := hFx.tr (by rw [hM29]; exact (z_Fx.u (zk_w (z_ix.lt hx1)) rfl))
        have hOk : z_Ok M29 := hOk0.fx hFx
        refine lv_aload_n hx hb dX3_flowThrough_150 rfl (lv_at hl 4 rfl) ?_
        refine z_grN (D := (dC, dI)) (cl := vwCl) (C := RX0) (T := TX0) (N := 3) (ci := 0) (k := 0) hx hb hts hinX0 hown hK hH (zk_b (z_ix.lt hx2)) (by decide) rfl (by decide) rfl (zr_b (z_ix.lt hx2)) (hN (.fieldLinkNest RX3 123 "Steamfield$Block" "water" "LSteamfield$Water;" "Steamfield") (by decide +kernel)) (fun _ h9 => h9) dX3_flowThrough_151 ?_
        refine lv_dup hx hb dX3_flowThrough_154 rfl ?_
        refine z_giN (D := (dC, dI)) (cl := vwCl) (C := RX6) (T := TX6) (N := 4) (ci := 6) (k := 1) hx hb hts hinX6 hown hK hH (zk_w (z_ix.lt hx2)) (by decide) rfl (by decide) rfl (hN (.fieldLinkNest RX3 213 "Steamfield$Water" "heat" "I" "Steamfield") (by decide +kernel)) (fun _ h9 => h9) dX3_flowThrough_155 ?_
        refine lv_topi (fun x30 ex30 => ?_)
        refine lv_iload hx hb dX3_flowThrough_158 (lv_at hl 0 rfl) ?_
        refine lv_iadd hx hb dX3_flowThrough_160 ?_
        refine lv_topi (fun x31 ex31 => ?_)
        refine zp_iN (D := (dC, dI)) (cl := vwCl) (C := RX6) (T := TX6) (N := 4) (ci := 6) (k := 1) (ty := .int) hx hb hts hinX6 tyX6 tyX6_ok nmX6 hown hK hH hI hS (fun _ h => h) (zk_w (z_ix.lt hx2)) (by decide) rfl (by decide) rfl (hN (.fieldLinkNest RX3 213 "Steamfield$Water" "heat" "I" "Steamfield") (by decide +kernel)) (fun _ h9 => h9) rfl (by decide +kernel) rfl rfl dX3_flowThrough_161 (fun H locs hH oq hS => ?_)
        obtain ⟨M32, hM32⟩ : ∃ z : zM, z = zu M29 (30 + x2.toNatClampNeg) 1 x31 := ⟨_, rfl⟩
        rw [← hM32] at hH
        have hFx : z_Fx M M32 := hFx.tr (by rw [hM32]; exact (z_Fx.u (zk_w (z_ix.lt hx2)) rfl))
        have hOk : z_Ok M32 := hOk0.fx hFx
        refine lv_iload hx hb dX3_flowThrough_164 (lv_at hl 8 rfl) ?_
        refine lv_bipush (v := 50) hx hb dX3_flowThrough_166 (by decide) ?_
        have J35 : ∀ M34 : zM, M34 = (if x12 < 50 then M32 else (let x34 := M32 (40 + f) 2; let x35 := x34 + 1; let x36 := if 9 < x35 then 9 else x35; let M37 := zu M32 (40 + f) 2 x36; M37)) → ∀ ls : Array Slot, lv_has ls 9 [(0, .ref (ad 0)), (1, .ref (ad (40 + f))), (2, .ref (ad (20 + x1.toNatClampNeg))), (3, .ref (ad (20 + x2.toNatClampNeg))), (4, .int x5), (5, .ref (ad (20 + u7))), (6, .ref (ad (20 + u10))), (7, .int x12), (8, .int x26)] → ∀ (H : Heap) (locs : List Loc), z_H (dC, dI) vwCl zf ca zd ad M34 H → z_Fx M M34 → va_S (z_A zd ad) s.heap H locs → W p l e (headSpec wsX3_flowThrough ({ frames := 2, cells := 0, slots := 0, locals := 45 })).room s m ([.ref (ad 0), .ref (ad (40 + f))] : List Value).toArray below meth c H locs 0 0 (MQ below (z_Qv (fun H => zW dC dI ca ad (fX3_flowThrough M f) H ∧ z_Fx M (fX3_flowThrough M f)) (z_A zd ad)) ([.ref (ad 0), .ref (ad (40 + f))] : List Value).toArray s 0 0 (z_A zd ad)) (F0 m 186 ls []) := by
          intro M34 hM34 ls hl H locs hH hFx hS
          have hOk : z_Ok M34 := hOk0.fx hFx
          have hF : zW dC dI ca ad (fX3_flowThrough M f) H := by
            have e9 : M34 = fX3_flowThrough M f := by subst hM34; subst hM32; subst ex31; subst ex30; subst hM29; subst ex28; subst ex27; subst ex26; subst ex25; subst ex24; subst ex23; subst ex22; subst hM21; subst ex19; subst hM17; subst hM16; subst ex15; subst ex14; subst ex13; subst ex12; subst eu10; subst eu7; subst ex5; subst ex4; subst ex3; subst ex2; subst ex1; rfl
            rw [← e9]; exact hH
          have hFF : z_Fx M (fX3_flowThrough M f) := by
            have e9 : M34 = fX3_flowThrough M f := by subst hM34; subst hM32; subst ex31; subst ex30; subst hM29; subst ex28; subst ex27; subst ex26; subst ex25; subst ex24; subst ex23; subst ex22; subst hM21; subst ex19; subst hM17; subst hM16; subst ex15; subst ex14; subst ex13; subst ex12; subst eu10; subst eu7; subst ex5; subst ex4; subst ex3; subst ex2; subst ex1; rfl
            rw [← e9]; exact hFx
          exact W.vret hx hb hr (fun t ht hW => ⟨⟨(), rfl, trivial, z_to (B := fun H => zW dC dI ca ad (fX3_flowThrough M f) H ∧ z_Fx M (fX3_flowThrough M f)) ht ⟨hF, hFF⟩⟩, hS.F ht⟩) hS.2.2 dX3_flowThrough_186
        refine lv_icmp_lt (tgt := 186) hx hb dX3_flowThrough_168 (by decide) (fun c33 => ?_) (fun c33 => ?_)
        · exact J35 _ (by exact (if_pos c33).symm) ls (lv_sub hl [1, 2, 3, 4, 5, 6, 7, 8, 0] rfl) _ _ hH hFx hS
        · refine lv_aload_n hx hb dX3_flowThrough_171 rfl (lv_at hl 2 rfl) ?_
          refine lv_aload_n hx hb dX3_flowThrough_172 rfl (lv_at hl 2 rfl) ?_
          refine z_giN (D := (dC, dI)) (cl := vwCl) (C := RX2) (T := TX2) (N := 4) (ci := 2) (k := 2) hx hb hts hinX2 hown hK hH (zk_f h_f) (by decide) rfl (by decide) rfl (hN (.fieldLinkNest RX3 194 "Steamfield$Face" "open" "I" "Steamfield") (by decide +kernel)) (fun _ h9 => h9) dX3_flowThrough_173 ?_
          refine lv_topi (fun x34 ex34 => ?_)
          refine lv_iconst (v := 1) hx hb dX3_flowThrough_176 (by decide) ?_
          refine lv_iadd hx hb dX3_flowThrough_177 ?_
          refine lv_topi (fun x35 ex35 => ?_)
          refine lv_bipush (v := 9) hx hb dX3_flowThrough_178 (by decide) ?_
          refine va_mmin hx hb (hml.trans hl.1.symm) hown (hts (.methodLink RX3 216 Lib.Math.min.name) (by decide +kernel)) (hts (.static Lib.Math.min.name) (by decide +kernel)) (hts (.initialized "java/lang/Math") (by decide +kernel)) (hts (.code Lib.Math.min.name Lib.Math.min.code 2 (some .int)) (by decide +kernel)) (Nat.le_of_ble_eq_true rfl) (Nat.le_of_ble_eq_true rfl) (Nat.le_refl _) (Nat.le_refl _) dX3_flowThrough_180 ?_
          refine lv_topi (fun x36 ex36 => ?_)
          refine zp_iN (D := (dC, dI)) (cl := vwCl) (C := RX2) (T := TX2) (N := 4) (ci := 2) (k := 2) (ty := .int) hx hb hts hinX2 tyX2 tyX2_ok nmX2 hown hK hH hI hS (fun _ h => h) (zk_f h_f) (by decide) rfl (by decide) rfl (hN (.fieldLinkNest RX3 194 "Steamfield$Face" "open" "I" "Steamfield") (by decide +kernel)) (fun _ h9 => h9) rfl (by decide +kernel) rfl rfl dX3_flowThrough_183 (fun H locs hH oq hS => ?_)
          obtain ⟨M37, hM37⟩ : ∃ z : zM, z = zu M32 (40 + f) 2 x36 := ⟨_, rfl⟩
          rw [← hM37] at hH
          have hFx : z_Fx M M37 := hFx.tr (by rw [hM37]; exact (z_Fx.u (zk_f h_f) rfl))
          have hOk : z_Ok M37 := hOk0.fx hFx
          exact J35 _ (by subst hM37; subst ex36; subst ex35; subst ex34; exact (if_neg c33).symm) ls (lv_sub hl [1, 2, 3, 4, 5, 6, 7, 8, 0] rfl) _ _ hH hFx hS
      refine lv_if_lt (tgt := 109) hx hb dX3_flowThrough_96 (by decide) (fun c18 => ?_) (fun c18 => ?_)
      · refine lv_aload_n hx hb dX3_flowThrough_109 rfl (lv_at hl 2 rfl) ?_
        refine z_gr (D := (dC, dI)) (cl := vwCl) (C := RX3) (T := TX3) (N := 15) (ci := 3) (k := 9) hx hb hts hinX3 hown hK hH zk_0 (by decide) rfl (by decide) rfl (zr_0 (k := 9) (by decide)) (hts (.fieldLink RX3 63 "Steamfield$Land" "load" "LSteamfield$Water;") (by decide +kernel)) (fun _ h9 => h9) dX3_flowThrough_110 ?_
        refine z_giN (D := (dC, dI)) (cl := vwCl) (C := RX6) (T := TX6) (N := 4) (ci := 6) (k := 0) hx hb hts hinX6 hown hK hH zk_10 (by decide) rfl (by decide) rfl (hN (.fieldLinkNest RX3 204 "Steamfield$Water" "mass" "I" "Steamfield") (by decide +kernel)) (fun _ h9 => h9) dX3_flowThrough_113 ?_
        refine lv_topi (fun x19 ex19 => ?_)
        refine lv_ineg hx hb dX3_flowThrough_116 ?_
        refine lv_topi (fun x20 ex20 => ?_)
        exact J20 _ (by subst ex20; subst ex19; exact (if_pos c18).symm) ls (lv_sub hl [2, 3, 4, 5, 6, 7, 1, 0] rfl)
      · refine lv_aload_n hx hb dX3_flowThrough_99 rfl (lv_at hl 2 rfl) ?_
        refine z_gr (D := (dC, dI)) (cl := vwCl) (C := RX3) (T := TX3) (N := 15) (ci := 3) (k := 9) hx hb hts hinX3 hown hK hH zk_0 (by decide) rfl (by decide) rfl (zr_0 (k := 9) (by decide)) (hts (.fieldLink RX3 63 "Steamfield$Land" "load" "LSteamfield$Water;") (by decide +kernel)) (fun _ h9 => h9) dX3_flowThrough_100 ?_
        refine z_giN (D := (dC, dI)) (cl := vwCl) (C := RX6) (T := TX6) (N := 4) (ci := 6) (k := 0) hx hb hts hinX6 hown hK hH zk_10 (by decide) rfl (by decide) rfl (hN (.fieldLinkNest RX3 204 "Steamfield$Water" "mass" "I" "Steamfield") (by decide +kernel)) (fun _ h9 => h9) dX3_flowThrough_103 ?_
        refine lv_topi (fun x19 ex19 => ?_)
        refine lv_goto (tgt := 117) hx hb dX3_flowThrough_106 (by decide) ?_
        exact J20 _ (by subst ex19; exact (if_neg c18).symm) ls (lv_sub hl [2, 3, 4, 5, 6, 7, 1, 0] rfl)
    refine lv_if_lt (tgt := 52) hx hb dX3_flowThrough_45 (by decide) (fun c9 => ?_) (fun c9 => ?_)
    · refine lv_aload_n hx hb dX3_flowThrough_52 rfl (lv_at hl 3 rfl) ?_
      exact J11 _ (by exact (if_pos c9).symm) (z_ix.lt hx1) ls (lv_sub hl [1, 2, 3, 4, 5, 0] rfl)
    · refine lv_aload_n hx hb dX3_flowThrough_48 rfl (lv_at hl 4 rfl) ?_
      refine lv_goto (tgt := 53) hx hb dX3_flowThrough_49 (by decide) ?_
      exact J11 _ (by exact (if_neg c9).symm) (z_ix.lt hx2) ls (lv_sub hl [1, 2, 3, 4, 5, 0] rfl)
  refine lv_if_lt (tgt := 40) hx hb dX3_flowThrough_33 (by decide) (fun c6 => ?_) (fun c6 => ?_)
  · refine lv_aload_n hx hb dX3_flowThrough_40 rfl (lv_at hl 1 rfl) ?_
    exact J8 _ (by exact (if_pos c6).symm) (z_ix.lt hx2) ls (lv_sub hl [3, 4, 2, 1, 0] rfl)
  · refine lv_aload_n hx hb dX3_flowThrough_36 rfl (lv_at hl 2 rfl) ?_
    refine lv_goto (tgt := 41) hx hb dX3_flowThrough_37 (by decide) ?_
    exact J8 _ (by exact (if_neg c6).symm) (z_ix.lt hx1) ls (lv_sub hl [3, 4, 2, 1, 0] rfl)

def fX3_produce (M : zM) (v : Nat) : zM :=
  let x1 := M (60 + v) 0
  let x2 := rX0_warmth M x1.toNatClampNeg
  let x3 := rX0_pressure M x1.toNatClampNeg
  let x4 := x3 - 40
  let x5 := M (60 + v) 3
  let x6 := 3 * x5
  let x7 := x4 - x6
  let x8 := if x7 < 0 then 0 else x7
  let x9 := M (60 + v) 2
  let x10 := x8 * x9
  let x11 := x10 / 20
  let M12 := fX0_take M x1.toNatClampNeg x11 10
  let x13 := M12 10 0
  let x14 := x2 - 100
  let x15 := if x14 < 0 then 0 else x14
  let x16 := x13 * x15
  let x17 := x16 / 400
  let x18 := M12 10 0
  let x19 := if x18 < x17 then x18 else x17
  let x20 := M12 10 0
  let x21 := x20 - x19
  let M22 := fX7_note M12 v 10 x19
  let x23 := M22 10 2
  let x24 := 10 * x23
  let x25 := 30 * x21
  let M27 := if x24 ≤ x25 then M22 else (let M27 := fX7_growCrust M22 v; M27)
  let M29 := zu M27 10 0 x21
  let x30 := if 100 < x2 then 100 else x2
  let x31 := x21 * x30
  let M32 := zu M29 10 1 x31
  let M33 := fX6_add M32 5 10
  M33
def rX3_produce (M : zM) (v : Nat) : Int32 :=
  let x1 := M (60 + v) 0
  let x2 := rX0_warmth M x1.toNatClampNeg
  let x3 := rX0_pressure M x1.toNatClampNeg
  let x4 := x3 - 40
  let x5 := M (60 + v) 3
  let x6 := 3 * x5
  let x7 := x4 - x6
  let x8 := if x7 < 0 then 0 else x7
  let x9 := M (60 + v) 2
  let x10 := x8 * x9
  let x11 := x10 / 20
  let M12 := fX0_take M x1.toNatClampNeg x11 10
  let x13 := M12 10 0
  let x14 := x2 - 100
  let x15 := if x14 < 0 then 0 else x14
  let x16 := x13 * x15
  let x17 := x16 / 400
  let x18 := M12 10 0
  let x19 := if x18 < x17 then x18 else x17
  let x20 := M12 10 0
  let x21 := x20 - x19
  let M22 := fX7_note M12 v 10 x19
  let x23 := M22 10 2
  let x24 := 10 * x23
  let x25 := 30 * x21
  let M27 := if x24 ≤ x25 then M22 else (let M27 := fX7_growCrust M22 v; M27)
  let M29 := zu M27 10 0 x21
  let x30 := if 100 < x2 then 100 else x2
  let x31 := x21 * x30
  let M32 := zu M29 10 1 x31
  let M33 := fX6_add M32 5 10
  x19
set_option maxHeartbeats 4000000 in
set_option maxRecDepth 100000 in
theorem m_X3_produce (l : Launch) (dC : Nat → ClassId) (dI : Nat → Nat → Nat) (ca : Nat → ClassId) (ad : Nat → Nat) (hI : z_I zd ad) (M : zM) (v : Nat) (h_v : v < 6) (hOk0 : z_Ok M) : Met l yX3_produce wsX3_produce ({ frames := 2, cells := 0, slots := 0, locals := 45 }) (z_Pc (dC, dI) vwCl (zt ca) zw_nest [.ref (ad 0), .ref (ad (60 + v))] (fun H => zW dC dI ca ad M H)) (z_Qi (rX3_produce M v) (fun H => zW dC dI ca ad (fX3_produce M v) H ∧ z_Fx M (fX3_produce M v)) (z_A zd ad)) 0 0 (z_A zd ad) := by
  refine Met.ofW (cc := cX3_produce) (maxL := 7) (ret := (some .int)) (by decide) rfl ?_
  intro p e s m args below meth c s₁ B hml hv
  obtain ⟨rfl, hH, hK, hN⟩ := hv
  have hx := B.exec
  have hb := B.bytes
  have hr := B.returns
  have hts := atoms_spec (ws := wsX3_produce) B.pre
  have hown : s.vm.findClass RX3 = some m.cls := findClass_of_methodNamed B.named
  have hlocks := B.notSynchronized
  have hS : va_S (z_A zd ad) s.heap s.heap [] := va_S.rf
  have hOk := hOk0
  have hFx : z_Fx M M := z_Fx.rf
  have hH : z_H (dC, dI) vwCl zf ca zd ad M s.heap := hH
  have hinX3 : ∀ w ∈ u_ws RX3 TX3 15, w ∈ wsX3_produce := by decide +kernel
  have hinX6 : ∀ w ∈ u_ws RX6 TX6 4, w ∈ wsX3_produce := by decide +kernel
  have hinX7 : ∀ w ∈ u_ws RX7 TX7 9, w ∈ wsX3_produce := by decide +kernel
  have hl := lv_entry ([.ref (ad 0), .ref (ad (60 + v))]) (n := 7) (Nat.le_of_ble_eq_true rfl)
  rw [lg_entry_eq]
  generalize (lg_sl ([.ref (ad 0), .ref (ad (60 + v))]) ++ List.replicate (7 - (lg_sl ([.ref (ad 0), .ref (ad (60 + v))])).length) Slot.unset).toArray = ls at hl ⊢
  have hl : lv_has ls 7 [(0, .ref (ad 0)), (1, .ref (ad (60 + v)))] := hl
  refine lv_aload_n hx hb dX3_produce_0 rfl (lv_at hl 0 rfl) ?_
  refine z_gr (D := (dC, dI)) (cl := vwCl) (C := RX3) (T := TX3) (N := 15) (ci := 3) (k := 0) hx hb hts hinX3 hown hK hH zk_0 (by decide) rfl (by decide) rfl (zr_0 (k := 0) (by decide)) (hts (.fieldLink RX3 11 "Steamfield$Land" "blocks" "[LSteamfield$Block;") (by decide +kernel)) (fun _ h9 => h9) dX3_produce_1 ?_
  refine lv_aload_n hx hb dX3_produce_4 rfl (lv_at hl 1 rfl) ?_
  refine z_giN (D := (dC, dI)) (cl := vwCl) (C := RX7) (T := TX7) (N := 9) (ci := 7) (k := 0) hx hb hts hinX7 hown hK hH (zk_v h_v) (by decide) rfl (by decide) rfl (hN (.fieldLinkNest RX3 220 "Steamfield$Well" "block" "I" "Steamfield") (by decide +kernel)) (fun _ h9 => h9) dX3_produce_5 ?_
  refine lv_topi (fun x1 ex1 => ?_)
  have hx1 : z_ix x1 8 := by rw [ex1]; exact z_Ok.wblock hOk h_v
  refine z_aq (t0 := 1) (D := (dC, dI)) (cl := vwCl) (tys := zt ca) hx hb hK hH zk_1 (by decide) (by decide) rfl (show vp_in x1 8 from (z_ix.in hx1)) (show zr 1 (x1 : Int32).toNatClampNeg = some (20 + x1.toNatClampNeg) from zr_1 (z_ix.lt hx1)) dX3_produce_8 ?_
  refine lv_astore_n (lv' := [(2, .ref (ad (20 + x1.toNatClampNeg))), (0, .ref (ad 0)), (1, .ref (ad (60 + v)))]) hx hb dX3_produce_9 rfl hl (by decide) rfl (fun ls hl => ?_)
  refine lv_aload_n hx hb dX3_produce_10 rfl (lv_at hl 0 rfl) ?_
  refine z_cVi (D := (dC, dI)) (cl := vwCl) (tys := zt ca) (nw := zw_nest) (C := RX0) (As := []) (rest := []) ⟨hx, hb, hml, hown, hts⟩ (m_X0_warmth l dC dI ca ad hI M x1.toNatClampNeg (z_ix.lt hx1)) (cwV 0 hts gX3_produce_X0_warmth rfl rfl rfl (by decide +kernel) ⟨Nat.le_of_ble_eq_true rfl, Nat.le_of_ble_eq_true rfl⟩) (z_recv (ci := 0) (i := (20 + x1.toNatClampNeg)) hK hH (zk_b (z_ix.lt hx1)) (by decide) rfl) hH hK hN zw_nest_ok rfl hl.1 rfl (Nat.le_of_ble_eq_true rfl) dX3_produce_11 ⟨Nat.le_refl _, Nat.le_refl _⟩ hS (fun _ h => h) (fun H locs hB1 oq1 hz1 hS => ?_)
  have hH := hB1
  refine lv_topi (fun x2 ex2 => ?_)
  refine lv_istore_n (lv' := [(3, .int x2), (2, .ref (ad (20 + x1.toNatClampNeg))), (0, .ref (ad 0)), (1, .ref (ad (60 + v)))]) hx hb dX3_produce_14 rfl hl (by decide) rfl (fun ls hl => ?_)
  refine lv_aload_n hx hb dX3_produce_15 rfl (lv_at hl 1 rfl) ?_
  refine z_cVi (D := (dC, dI)) (cl := vwCl) (tys := zt ca) (nw := zw_nest) (C := RX0) (As := []) (rest := []) ⟨hx, hb, hml, hown, hts⟩ (m_X0_pressure l dC dI ca ad hI M x1.toNatClampNeg (z_ix.lt hx1)) (cwV 0 hts gX3_produce_X0_pressure rfl rfl rfl (by decide +kernel) ⟨Nat.le_of_ble_eq_true rfl, Nat.le_of_ble_eq_true rfl⟩) (z_recv (ci := 0) (i := (20 + x1.toNatClampNeg)) hK hH (zk_b (z_ix.lt hx1)) (by decide) rfl) hH hK hN zw_nest_ok rfl hl.1 rfl (Nat.le_of_ble_eq_true rfl) dX3_produce_16 ⟨Nat.le_refl _, Nat.le_refl _⟩ hS (fun _ h => h) (fun H locs hB1 oq1 hz1 hS => ?_)
  have hH := hB1
  refine lv_topi (fun x3 ex3 => ?_)
  refine lv_bipush (v := 40) hx hb dX3_produce_19 (by decide) ?_
  refine lv_isub hx hb dX3_produce_21 ?_
  refine lv_topi (fun x4 ex4 => ?_)
  refine lv_iconst (v := 3) hx hb dX3_produce_22 (by decide) ?_
  refine lv_aload_n hx hb dX3_produce_23 rfl (lv_at hl 3 rfl) ?_
  refine z_giN (D := (dC, dI)) (cl := vwCl) (C := RX7) (T := TX7) (N := 9) (ci := 7) (k := 3) hx hb hts hinX7 hown hK hH (zk_v h_v) (by decide) rfl (by decide) rfl (hN (.fieldLinkNest RX3 223 "Steamfield$Well" "scale" "I" "Steamfield") (by decide +kernel)) (fun _ h9 => h9) dX3_produce_24 ?_
  refine lv_topi (fun x5 ex5 => ?_)
  refine lv_imul hx hb dX3_produce_27 ?_
  refine lv_topi (fun x6 ex6 => ?_)
  refine lv_isub hx hb dX3_produce_28 ?_
  refine lv_topi (fun x7 ex7 => ?_)
  refine lv_iconst (v := 0) hx hb dX3_produce_29 (by decide) ?_
  refine va_mmax hx hb (hml.trans hl.1.symm) hown (hts (.methodLink RX3 226 Lib.Math.max.name) (by decide +kernel)) (hts (.static Lib.Math.max.name) (by decide +kernel)) (hts (.initialized "java/lang/Math") (by decide +kernel)) (hts (.code Lib.Math.max.name Lib.Math.max.code 2 (some .int)) (by decide +kernel)) (Nat.le_of_ble_eq_true rfl) (Nat.le_of_ble_eq_true rfl) (Nat.le_refl _) (Nat.le_refl _) dX3_produce_30 ?_
  refine lv_topi (fun x8 ex8 => ?_)
  refine lv_istore (lv' := [(4, .int x8), (3, .int x2), (2, .ref (ad (20 + x1.toNatClampNeg))), (0, .ref (ad 0)), (1, .ref (ad (60 + v)))]) hx hb dX3_produce_33 hl (by decide) rfl (fun ls hl => ?_)
  refine lv_aload_n hx hb dX3_produce_35 rfl (lv_at hl 2 rfl) ?_
  refine lv_iload hx hb dX3_produce_36 (lv_at hl 0 rfl) ?_
  refine lv_aload_n hx hb dX3_produce_38 rfl (lv_at hl 4 rfl) ?_
  refine z_giN (D := (dC, dI)) (cl := vwCl) (C := RX7) (T := TX7) (N := 9) (ci := 7) (k := 2) hx hb hts hinX7 hown hK hH (zk_v h_v) (by decide) rfl (by decide) rfl (hN (.fieldLinkNest RX3 143 "Steamfield$Well" "valve" "I" "Steamfield") (by decide +kernel)) (fun _ h9 => h9) dX3_produce_39 ?_
  refine lv_topi (fun x9 ex9 => ?_)
  refine lv_imul hx hb dX3_produce_42 ?_
  refine lv_topi (fun x10 ex10 => ?_)
  refine lv_bipush (v := 20) hx hb dX3_produce_43 (by decide) ?_
  refine lv_idiv hx hb dX3_produce_45 (by decide) ?_
  refine lv_topi (fun x11 ex11 => ?_)
  refine lv_aload_n hx hb dX3_produce_46 rfl (lv_at hl 3 rfl) ?_
  refine z_gr (D := (dC, dI)) (cl := vwCl) (C := RX3) (T := TX3) (N := 15) (ci := 3) (k := 9) hx hb hts hinX3 hown hK hH zk_0 (by decide) rfl (by decide) rfl (zr_0 (k := 9) (by decide)) (hts (.fieldLink RX3 63 "Steamfield$Land" "load" "LSteamfield$Water;") (by decide +kernel)) (fun _ h9 => h9) dX3_produce_47 ?_
  refine z_cVv (D := (dC, dI)) (cl := vwCl) (tys := zt ca) (nw := zw_nest) (C := RX0) (As := [.int x11, .ref (ad 10)]) (rest := []) ⟨hx, hb, hml, hown, hts⟩ (m_X0_take l dC dI ca ad hI M x1.toNatClampNeg (z_ix.lt hx1) x11 10 zk_10) (cwV 2 hts gX3_produce_X0_take rfl rfl rfl (by decide +kernel) ⟨Nat.le_of_ble_eq_true rfl, Nat.le_of_ble_eq_true rfl⟩) (z_recv (ci := 0) (i := (20 + x1.toNatClampNeg)) hK hH (zk_b (z_ix.lt hx1)) (by decide) rfl) hH hK hN zw_nest_ok rfl hl.1 rfl (Nat.le_of_ble_eq_true rfl) dX3_produce_50 ⟨Nat.le_refl _, Nat.le_refl _⟩ hS (fun _ h => h) (fun H locs hB1 oq1 hz1 hS => ?_)
  have hH := hB1
  obtain ⟨M12, hM12⟩ : ∃ z : zM, z = fX0_take M x1.toNatClampNeg x11 10 := ⟨_, rfl⟩
  have hH : z_H (dC, dI) vwCl zf ca zd ad M12 H := by rw [hM12]; exact hH
  have hFx : z_Fx M M12 := hFx.tr (by rw [hM12]; exact (fx_X0_take M x1.toNatClampNeg (z_ix.lt hx1) x11 10 zk_10))
  have hOk : z_Ok M12 := hOk0.fx hFx
  refine lv_aload_n hx hb dX3_produce_53 rfl (lv_at hl 3 rfl) ?_
  refine z_gr (D := (dC, dI)) (cl := vwCl) (C := RX3) (T := TX3) (N := 15) (ci := 3) (k := 9) hx hb hts hinX3 hown hK hH zk_0 (by decide) rfl (by decide) rfl (zr_0 (k := 9) (by decide)) (hts (.fieldLink RX3 63 "Steamfield$Land" "load" "LSteamfield$Water;") (by decide +kernel)) (fun _ h9 => h9) dX3_produce_54 ?_
  refine z_giN (D := (dC, dI)) (cl := vwCl) (C := RX6) (T := TX6) (N := 4) (ci := 6) (k := 0) hx hb hts hinX6 hown hK hH zk_10 (by decide) rfl (by decide) rfl (hN (.fieldLinkNest RX3 204 "Steamfield$Water" "mass" "I" "Steamfield") (by decide +kernel)) (fun _ h9 => h9) dX3_produce_57 ?_
  refine lv_topi (fun x13 ex13 => ?_)
  refine lv_iload_n hx hb dX3_produce_60 rfl (lv_at hl 1 rfl) ?_
  refine lv_bipush (v := 100) hx hb dX3_produce_61 (by decide) ?_
  refine lv_isub hx hb dX3_produce_63 ?_
  refine lv_topi (fun x14 ex14 => ?_)
  refine lv_iconst (v := 0) hx hb dX3_produce_64 (by decide) ?_
  refine va_mmax hx hb (hml.trans hl.1.symm) hown (hts (.methodLink RX3 226 Lib.Math.max.name) (by decide +kernel)) (hts (.static Lib.Math.max.name) (by decide +kernel)) (hts (.initialized "java/lang/Math") (by decide +kernel)) (hts (.code Lib.Math.max.name Lib.Math.max.code 2 (some .int)) (by decide +kernel)) (Nat.le_of_ble_eq_true rfl) (Nat.le_of_ble_eq_true rfl) (Nat.le_refl _) (Nat.le_refl _) dX3_produce_65 ?_
  refine lv_topi (fun x15 ex15 => ?_)
  refine lv_imul hx hb dX3_produce_68 ?_
  refine lv_topi (fun x16 ex16 => ?_)
  refine lv_sipush (v := 400) hx hb dX3_produce_69 (by decide) ?_
  refine lv_idiv hx hb dX3_produce_72 (by decide) ?_
  refine lv_topi (fun x17 ex17 => ?_)
  refine lv_aload_n hx hb dX3_produce_73 rfl (lv_at hl 3 rfl) ?_
  refine z_gr (D := (dC, dI)) (cl := vwCl) (C := RX3) (T := TX3) (N := 15) (ci := 3) (k := 9) hx hb hts hinX3 hown hK hH zk_0 (by decide) rfl (by decide) rfl (zr_0 (k := 9) (by decide)) (hts (.fieldLink RX3 63 "Steamfield$Land" "load" "LSteamfield$Water;") (by decide +kernel)) (fun _ h9 => h9) dX3_produce_74 ?_
  refine z_giN (D := (dC, dI)) (cl := vwCl) (C := RX6) (T := TX6) (N := 4) (ci := 6) (k := 0) hx hb hts hinX6 hown hK hH zk_10 (by decide) rfl (by decide) rfl (hN (.fieldLinkNest RX3 204 "Steamfield$Water" "mass" "I" "Steamfield") (by decide +kernel)) (fun _ h9 => h9) dX3_produce_77 ?_
  refine lv_topi (fun x18 ex18 => ?_)
  refine va_mmin hx hb (hml.trans hl.1.symm) hown (hts (.methodLink RX3 216 Lib.Math.min.name) (by decide +kernel)) (hts (.static Lib.Math.min.name) (by decide +kernel)) (hts (.initialized "java/lang/Math") (by decide +kernel)) (hts (.code Lib.Math.min.name Lib.Math.min.code 2 (some .int)) (by decide +kernel)) (Nat.le_of_ble_eq_true rfl) (Nat.le_of_ble_eq_true rfl) (Nat.le_refl _) (Nat.le_refl _) dX3_produce_80 ?_
  refine lv_topi (fun x19 ex19 => ?_)
  refine lv_istore (lv' := [(5, .int x19), (4, .int x8), (3, .int x2), (2, .ref (ad (20 + x1.toNatClampNeg))), (0, .ref (ad 0)), (1, .ref (ad (60 + v)))]) hx hb dX3_produce_83 hl (by decide) rfl (fun ls hl => ?_)
  refine lv_aload_n hx hb dX3_produce_85 rfl (lv_at hl 4 rfl) ?_
  refine z_gr (D := (dC, dI)) (cl := vwCl) (C := RX3) (T := TX3) (N := 15) (ci := 3) (k := 9) hx hb hts hinX3 hown hK hH zk_0 (by decide) rfl (by decide) rfl (zr_0 (k := 9) (by decide)) (hts (.fieldLink RX3 63 "Steamfield$Land" "load" "LSteamfield$Water;") (by decide +kernel)) (fun _ h9 => h9) dX3_produce_86 ?_
  refine z_giN (D := (dC, dI)) (cl := vwCl) (C := RX6) (T := TX6) (N := 4) (ci := 6) (k := 0) hx hb hts hinX6 hown hK hH zk_10 (by decide) rfl (by decide) rfl (hN (.fieldLinkNest RX3 204 "Steamfield$Water" "mass" "I" "Steamfield") (by decide +kernel)) (fun _ h9 => h9) dX3_produce_89 ?_
  refine lv_topi (fun x20 ex20 => ?_)
  refine lv_iload hx hb dX3_produce_92 (lv_at hl 0 rfl) ?_
  refine lv_isub hx hb dX3_produce_94 ?_
  refine lv_topi (fun x21 ex21 => ?_)
  refine lv_istore (lv' := [(6, .int x21), (5, .int x19), (4, .int x8), (3, .int x2), (2, .ref (ad (20 + x1.toNatClampNeg))), (0, .ref (ad 0)), (1, .ref (ad (60 + v)))]) hx hb dX3_produce_95 hl (by decide) rfl (fun ls hl => ?_)
  refine lv_aload_n hx hb dX3_produce_97 rfl (lv_at hl 6 rfl) ?_
  refine lv_aload_n hx hb dX3_produce_98 rfl (lv_at hl 5 rfl) ?_
  refine z_gr (D := (dC, dI)) (cl := vwCl) (C := RX3) (T := TX3) (N := 15) (ci := 3) (k := 9) hx hb hts hinX3 hown hK hH zk_0 (by decide) rfl (by decide) rfl (zr_0 (k := 9) (by decide)) (hts (.fieldLink RX3 63 "Steamfield$Land" "load" "LSteamfield$Water;") (by decide +kernel)) (fun _ h9 => h9) dX3_produce_99 ?_
  refine lv_iload hx hb dX3_produce_102 (lv_at hl 1 rfl) ?_
  refine z_cVv (D := (dC, dI)) (cl := vwCl) (tys := zt ca) (nw := zw_nest) (C := RX7) (As := [.ref (ad 10), .int x19]) (rest := []) ⟨hx, hb, hml, hown, hts⟩ (m_X7_note l dC dI ca ad hI M12 v h_v 10 zk_10 x19) (cwV 2 hts gX3_produce_X7_note rfl rfl rfl (by decide +kernel) ⟨Nat.le_of_ble_eq_true rfl, Nat.le_of_ble_eq_true rfl⟩) (z_recv (ci := 7) (i := (60 + v)) hK hH (zk_v h_v) (by decide) rfl) hH hK hN zw_nest_ok rfl hl.1 rfl (Nat.le_of_ble_eq_true rfl) dX3_produce_104 ⟨Nat.le_refl _, Nat.le_refl _⟩ hS (fun _ h => h) (fun H locs hB1 oq1 hz1 hS => ?_)
  have hH := hB1
  obtain ⟨M22, hM22⟩ : ∃ z : zM, z = fX7_note M12 v 10 x19 := ⟨_, rfl⟩
  have hH : z_H (dC, dI) vwCl zf ca zd ad M22 H := by rw [hM22]; exact hH
  have hFx : z_Fx M M22 := hFx.tr (by rw [hM22]; exact (fx_X7_note M12 v h_v 10 zk_10 x19))
  have hOk : z_Ok M22 := hOk0.fx hFx
  refine lv_bipush (v := 10) hx hb dX3_produce_107 (by decide) ?_
  refine lv_aload_n hx hb dX3_produce_109 rfl (lv_at hl 5 rfl) ?_
  refine z_gr (D := (dC, dI)) (cl := vwCl) (C := RX3) (T := TX3) (N := 15) (ci := 3) (k := 9) hx hb hts hinX3 hown hK hH zk_0 (by decide) rfl (by decide) rfl (zr_0 (k := 9) (by decide)) (hts (.fieldLink RX3 63 "Steamfield$Land" "load" "LSteamfield$Water;") (by decide +kernel)) (fun _ h9 => h9) dX3_produce_110 ?_
  refine z_giN (D := (dC, dI)) (cl := vwCl) (C := RX6) (T := TX6) (N := 4) (ci := 6) (k := 2) hx hb hts hinX6 hown hK hH zk_10 (by decide) rfl (by decide) rfl (hN (.fieldLinkNest RX3 233 "Steamfield$Water" "salt" "I" "Steamfield") (by decide +kernel)) (fun _ h9 => h9) dX3_produce_113 ?_
  refine lv_topi (fun x23 ex23 => ?_)
  refine lv_imul hx hb dX3_produce_116 ?_
  refine lv_topi (fun x24 ex24 => ?_)
  refine lv_bipush (v := 30) hx hb dX3_produce_117 (by decide) ?_
  refine lv_iload hx hb dX3_produce_119 (lv_at hl 0 rfl) ?_
  refine lv_imul hx hb dX3_produce_121 ?_
  refine lv_topi (fun x25 ex25 => ?_)
  have J28 : ∀ M27 : zM, M27 = (if x24 ≤ x25 then M22 else (let M27 := fX7_growCrust M22 v; M27)) → ∀ ls : Array Slot, lv_has ls 7 [(0, .ref (ad 0)), (1, .ref (ad (60 + v))), (2, .ref (ad (20 + x1.toNatClampNeg))), (3, .int x2), (4, .int x8), (5, .int x19), (6, .int x21)] → ∀ (H : Heap) (locs : List Loc), z_H (dC, dI) vwCl zf ca zd ad M27 H → z_Fx M M27 → va_S (z_A zd ad) s.heap H locs → W p l e (headSpec wsX3_produce ({ frames := 2, cells := 0, slots := 0, locals := 45 })).room s m ([.ref (ad 0), .ref (ad (60 + v))] : List Value).toArray below meth c H locs 0 0 (MQ below (z_Qi (rX3_produce M v) (fun H => zW dC dI ca ad (fX3_produce M v) H ∧ z_Fx M (fX3_produce M v)) (z_A zd ad)) ([.ref (ad 0), .ref (ad (60 + v))] : List Value).toArray s 0 0 (z_A zd ad)) (F0 m 129 ls []) := by
    intro M27 hM27 ls hl H locs hH hFx hS
    have hOk : z_Ok M27 := hOk0.fx hFx
    refine lv_aload_n hx hb dX3_produce_129 rfl (lv_at hl 0 rfl) ?_
    refine z_gr (D := (dC, dI)) (cl := vwCl) (C := RX3) (T := TX3) (N := 15) (ci := 3) (k := 9) hx hb hts hinX3 hown hK hH zk_0 (by decide) rfl (by decide) rfl (zr_0 (k := 9) (by decide)) (hts (.fieldLink RX3 63 "Steamfield$Land" "load" "LSteamfield$Water;") (by decide +kernel)) (fun _ h9 => h9) dX3_produce_130 ?_
    refine lv_iload hx hb dX3_produce_133 (lv_at hl 6 rfl) ?_
    refine zp_iN (D := (dC, dI)) (cl := vwCl) (C := RX6) (T := TX6) (N := 4) (ci := 6) (k := 0) (ty := .int) hx hb hts hinX6 tyX6 tyX6_ok nmX6 hown hK hH hI hS (fun _ h => h) zk_10 (by decide) rfl (by decide) rfl (hN (.fieldLinkNest RX3 204 "Steamfield$Water" "mass" "I" "Steamfield") (by decide +kernel)) (fun _ h9 => h9) rfl (by decide +kernel) rfl rfl dX3_produce_135 (fun H locs hH oq hS => ?_)
    obtain ⟨M29, hM29⟩ : ∃ z : zM, z = zu M27 10 0 x21 := ⟨_, rfl⟩
    rw [← hM29] at hH
    have hFx : z_Fx M M29 := hFx.tr (by rw [hM29]; exact (z_Fx.u zk_10 rfl))
    have hOk : z_Ok M29 := hOk0.fx hFx
    refine lv_aload_n hx hb dX3_produce_138 rfl (lv_at hl 0 rfl) ?_
    refine z_gr (D := (dC, dI)) (cl := vwCl) (C := RX3) (T := TX3) (N := 15) (ci := 3) (k := 9) hx hb hts hinX3 hown hK hH zk_0 (by decide) rfl (by decide) rfl (zr_0 (k := 9) (by decide)) (hts (.fieldLink RX3 63 "Steamfield$Land" "load" "LSteamfield$Water;") (by decide +kernel)) (fun _ h9 => h9) dX3_produce_139 ?_
    refine lv_iload hx hb dX3_produce_142 (lv_at hl 6 rfl) ?_
    refine lv_iload_n hx hb dX3_produce_144 rfl (lv_at hl 3 rfl) ?_
    refine lv_bipush (v := 100) hx hb dX3_produce_145 (by decide) ?_
    refine va_mmin hx hb (hml.trans hl.1.symm) hown (hts (.methodLink RX3 216 Lib.Math.min.name) (by decide +kernel)) (hts (.static Lib.Math.min.name) (by decide +kernel)) (hts (.initialized "java/lang/Math") (by decide +kernel)) (hts (.code Lib.Math.min.name Lib.Math.min.code 2 (some .int)) (by decide +kernel)) (Nat.le_of_ble_eq_true rfl) (Nat.le_of_ble_eq_true rfl) (Nat.le_refl _) (Nat.le_refl _) dX3_produce_147 ?_
    refine lv_topi (fun x30 ex30 => ?_)
    refine lv_imul hx hb dX3_produce_150 ?_
    refine lv_topi (fun x31 ex31 => ?_)
    refine zp_iN (D := (dC, dI)) (cl := vwCl) (C := RX6) (T := TX6) (N := 4) (ci := 6) (k := 1) (ty := .int) hx hb hts hinX6 tyX6 tyX6_ok nmX6 hown hK hH hI hS (fun _ h => h) zk_10 (by decide) rfl (by decide) rfl (hN (.fieldLinkNest RX3 213 "Steamfield$Water" "heat" "I" "Steamfield") (by decide +kernel)) (fun _ h9 => h9) rfl (by decide +kernel) rfl rfl dX3_produce_151 (fun H locs hH oq hS => ?_)
    obtain ⟨M32, hM32⟩ : ∃ z : zM, z = zu M29 10 1 x31 := ⟨_, rfl⟩
    rw [← hM32] at hH
    have hFx : z_Fx M M32 := hFx.tr (by rw [hM32]; exact (z_Fx.u zk_10 rfl))
    have hOk : z_Ok M32 := hOk0.fx hFx
    refine lv_aload_n hx hb dX3_produce_154 rfl (lv_at hl 0 rfl) ?_
    refine z_gr (D := (dC, dI)) (cl := vwCl) (C := RX3) (T := TX3) (N := 15) (ci := 3) (k := 4) hx hb hts hinX3 hown hK hH zk_0 (by decide) rfl (by decide) rfl (zr_0 (k := 4) (by decide)) (hts (.fieldLink RX3 38 "Steamfield$Land" "pond" "LSteamfield$Water;") (by decide +kernel)) (fun _ h9 => h9) dX3_produce_155 ?_
    refine lv_aload_n hx hb dX3_produce_158 rfl (lv_at hl 0 rfl) ?_
    refine z_gr (D := (dC, dI)) (cl := vwCl) (C := RX3) (T := TX3) (N := 15) (ci := 3) (k := 9) hx hb hts hinX3 hown hK hH zk_0 (by decide) rfl (by decide) rfl (zr_0 (k := 9) (by decide)) (hts (.fieldLink RX3 63 "Steamfield$Land" "load" "LSteamfield$Water;") (by decide +kernel)) (fun _ h9 => h9) dX3_produce_159 ?_
    refine z_cVv (D := (dC, dI)) (cl := vwCl) (tys := zt ca) (nw := zw_nest) (C := RX6) (As := [.ref (ad 10)]) (rest := []) ⟨hx, hb, hml, hown, hts⟩ (m_X6_add l dC dI ca ad hI M32 5 zk_5 10 zk_10) (cwV 1 hts gX3_produce_X6_add rfl rfl rfl (by decide +kernel) ⟨Nat.le_of_ble_eq_true rfl, Nat.le_of_ble_eq_true rfl⟩) (z_recv (ci := 6) (i := 5) hK hH zk_5 (by decide) rfl) hH hK hN zw_nest_ok rfl hl.1 rfl (Nat.le_of_ble_eq_true rfl) dX3_produce_162 ⟨Nat.le_refl _, Nat.le_refl _⟩ hS (fun _ h => h) (fun H locs hB1 oq1 hz1 hS => ?_)
    have hH := hB1
    obtain ⟨M33, hM33⟩ : ∃ z : zM, z = fX6_add M32 5 10 := ⟨_, rfl⟩
    have hH : z_H (dC, dI) vwCl zf ca zd ad M33 H := by rw [hM33]; exact hH
    have hFx : z_Fx M M33 := hFx.tr (by rw [hM33]; exact (fx_X6_add M32 5 zk_5 10 zk_10))
    have hOk : z_Ok M33 := hOk0.fx hFx
    refine lv_iload hx hb dX3_produce_165 (lv_at hl 5 rfl) ?_
    have hF : zW dC dI ca ad (fX3_produce M v) H := by
      have e9 : M33 = fX3_produce M v := by subst hM33; subst hM32; subst ex31; subst ex30; subst hM29; subst hM27; subst ex25; subst ex24; subst ex23; subst hM22; subst ex21; subst ex20; subst ex19; subst ex18; subst ex17; subst ex16; subst ex15; subst ex14; subst ex13; subst hM12; subst ex11; subst ex10; subst ex9; subst ex8; subst ex7; subst ex6; subst ex5; subst ex4; subst ex3; subst ex2; subst ex1; rfl
      rw [← e9]; exact hH
    have hFF : z_Fx M (fX3_produce M v) := by
      have e9 : M33 = fX3_produce M v := by subst hM33; subst hM32; subst ex31; subst ex30; subst hM29; subst hM27; subst ex25; subst ex24; subst ex23; subst hM22; subst ex21; subst ex20; subst ex19; subst ex18; subst ex17; subst ex16; subst ex15; subst ex14; subst ex13; subst hM12; subst ex11; subst ex10; subst ex9; subst ex8; subst ex7; subst ex6; subst ex5; subst ex4; subst ex3; subst ex2; subst ex1; rfl
      rw [← e9]; exact hFx
    have hR : x19 = rX3_produce M v := by subst hM33; subst hM32; subst ex31; subst ex30; subst hM29; subst hM27; subst ex25; subst ex24; subst ex23; subst hM22; subst ex21; subst ex20; subst ex19; subst ex18; subst ex17; subst ex16; subst ex15; subst ex14; subst ex13; subst hM12; subst ex11; subst ex10; subst ex9; subst ex8; subst ex7; subst ex6; subst ex5; subst ex4; subst ex3; subst ex2; subst ex1; rfl
    exact W.iret (v := x19) hx hb hr (fun t ht hW => ⟨⟨x19, (), rfl, hR, z_to (B := fun H => zW dC dI ca ad (fX3_produce M v) H ∧ z_Fx M (fX3_produce M v)) ht ⟨hF, hFF⟩⟩, hS.F ht⟩) hS.2.2 dX3_produce_167
  refine lv_icmp_le (tgt := 129) hx hb dX3_produce_122 (by decide) (fun c26 => ?_) (fun c26 => ?_)
  · exact J28 _ (by exact (if_pos c26).symm) ls (lv_sub hl [5, 6, 4, 3, 2, 1, 0] rfl) _ _ hH hFx hS
  · refine lv_aload_n hx hb dX3_produce_125 rfl (lv_at hl 6 rfl) ?_
    refine z_cVv (D := (dC, dI)) (cl := vwCl) (tys := zt ca) (nw := zw_nest) (C := RX7) (As := []) (rest := []) ⟨hx, hb, hml, hown, hts⟩ (m_X7_growCrust l dC dI ca ad hI M22 v h_v) (cwV 0 hts gX3_produce_X7_growCrust rfl rfl rfl (by decide +kernel) ⟨Nat.le_of_ble_eq_true rfl, Nat.le_of_ble_eq_true rfl⟩) (z_recv (ci := 7) (i := (60 + v)) hK hH (zk_v h_v) (by decide) rfl) hH hK hN zw_nest_ok rfl hl.1 rfl (Nat.le_of_ble_eq_true rfl) dX3_produce_126 ⟨Nat.le_refl _, Nat.le_refl _⟩ hS (fun _ h => h) (fun H locs hB1 oq1 hz1 hS => ?_)
    have hH := hB1
    obtain ⟨M27, hM27⟩ : ∃ z : zM, z = fX7_growCrust M22 v := ⟨_, rfl⟩
    have hH : z_H (dC, dI) vwCl zf ca zd ad M27 H := by rw [hM27]; exact hH
    have hFx : z_Fx M M27 := hFx.tr (by rw [hM27]; exact (fx_X7_growCrust M22 v h_v))
    have hOk : z_Ok M27 := hOk0.fx hFx
    exact J28 _ (by subst hM27; exact (if_neg c26).symm) ls (lv_sub hl [5, 6, 4, 3, 2, 1, 0] rfl) _ _ hH hFx hS

def fX3_inject (M : zM) (v : Nat) (a0 : Int32) : zM :=
  let x1 := M (60 + v) 2
  let x2 := 4 * x1
  let x4 := if a0 = 0 then x2 else (let x5 := if ¬ a0 = 1 then 0 else (let x5 := x2 / 2; x5); x5)
  let x6 := M 5 0
  let x7 := if x6 < x4 then x6 else x4
  let M8 := fX3_drain M x7
  let x9 := M8 (60 + v) 0
  let x10 := rX0_pressure M8 x9.toNatClampNeg
  let M11 := fX6_add M8 (30 + x9.toNatClampNeg) 10
  let M12 := fX7_note M11 v 10 0
  let x13 := rX0_pressure M12 x9.toNatClampNeg
  let x14 := x13 - x10
  let x16 := if x14 < 5 then 0 else x14
  M12
def rX3_inject (M : zM) (v : Nat) (a0 : Int32) : Int32 :=
  let x1 := M (60 + v) 2
  let x2 := 4 * x1
  let x4 := if a0 = 0 then x2 else (let x5 := if ¬ a0 = 1 then 0 else (let x5 := x2 / 2; x5); x5)
  let x6 := M 5 0
  let x7 := if x6 < x4 then x6 else x4
  let M8 := fX3_drain M x7
  let x9 := M8 (60 + v) 0
  let x10 := rX0_pressure M8 x9.toNatClampNeg
  let M11 := fX6_add M8 (30 + x9.toNatClampNeg) 10
  let M12 := fX7_note M11 v 10 0
  let x13 := rX0_pressure M12 x9.toNatClampNeg
  let x14 := x13 - x10
  let x16 := if x14 < 5 then 0 else x14
  x16
set_option maxHeartbeats 4000000 in
set_option maxRecDepth 100000 in
theorem m_X3_inject (l : Launch) (dC : Nat → ClassId) (dI : Nat → Nat → Nat) (ca : Nat → ClassId) (ad : Nat → Nat) (hI : z_I zd ad) (M : zM) (v : Nat) (h_v : v < 6) (a0 : Int32) (hOk0 : z_Ok M) : Met l yX3_inject wsX3_inject ({ frames := 2, cells := 0, slots := 0, locals := 43 }) (z_Pc (dC, dI) vwCl (zt ca) zw_nest [.ref (ad 0), .ref (ad (60 + v)), .int a0] (fun H => zW dC dI ca ad M H)) (z_Qi (rX3_inject M v a0) (fun H => zW dC dI ca ad (fX3_inject M v a0) H ∧ z_Fx M (fX3_inject M v a0)) (z_A zd ad)) 0 0 (z_A zd ad) := by
  refine Met.ofW (cc := cX3_inject) (maxL := 7) (ret := (some .int)) (by decide) rfl ?_
  intro p e s m args below meth c s₁ B hml hv
  obtain ⟨rfl, hH, hK, hN⟩ := hv
  have hx := B.exec
  have hb := B.bytes
  have hr := B.returns
  have hts := atoms_spec (ws := wsX3_inject) B.pre
  have hown : s.vm.findClass RX3 = some m.cls := findClass_of_methodNamed B.named
  have hlocks := B.notSynchronized
  have hS : va_S (z_A zd ad) s.heap s.heap [] := va_S.rf
  have hOk := hOk0
  have hFx : z_Fx M M := z_Fx.rf
  have hH : z_H (dC, dI) vwCl zf ca zd ad M s.heap := hH
  have hinX0 : ∀ w ∈ u_ws RX0 TX0 3, w ∈ wsX3_inject := by decide +kernel
  have hinX3 : ∀ w ∈ u_ws RX3 TX3 15, w ∈ wsX3_inject := by decide +kernel
  have hinX6 : ∀ w ∈ u_ws RX6 TX6 4, w ∈ wsX3_inject := by decide +kernel
  have hinX7 : ∀ w ∈ u_ws RX7 TX7 9, w ∈ wsX3_inject := by decide +kernel
  have hl := lv_entry ([.ref (ad 0), .ref (ad (60 + v)), .int a0]) (n := 7) (Nat.le_of_ble_eq_true rfl)
  rw [lg_entry_eq]
  generalize (lg_sl ([.ref (ad 0), .ref (ad (60 + v)), .int a0]) ++ List.replicate (7 - (lg_sl ([.ref (ad 0), .ref (ad (60 + v)), .int a0])).length) Slot.unset).toArray = ls at hl ⊢
  have hl : lv_has ls 7 [(0, .ref (ad 0)), (1, .ref (ad (60 + v))), (2, .int a0)] := hl
  refine lv_iconst (v := 4) hx hb dX3_inject_0 (by decide) ?_
  refine lv_aload_n hx hb dX3_inject_1 rfl (lv_at hl 1 rfl) ?_
  refine z_giN (D := (dC, dI)) (cl := vwCl) (C := RX7) (T := TX7) (N := 9) (ci := 7) (k := 2) hx hb hts hinX7 hown hK hH (zk_v h_v) (by decide) rfl (by decide) rfl (hN (.fieldLinkNest RX3 143 "Steamfield$Well" "valve" "I" "Steamfield") (by decide +kernel)) (fun _ h9 => h9) dX3_inject_2 ?_
  refine lv_topi (fun x1 ex1 => ?_)
  refine lv_imul hx hb dX3_inject_5 ?_
  refine lv_topi (fun x2 ex2 => ?_)
  refine lv_istore_n (lv' := [(3, .int x2), (0, .ref (ad 0)), (1, .ref (ad (60 + v))), (2, .int a0)]) hx hb dX3_inject_6 rfl hl (by decide) rfl (fun ls hl => ?_)
  refine lv_iload_n hx hb dX3_inject_7 rfl (lv_at hl 3 rfl) ?_
  have J5 : ∀ x4 : Int32, x4 = (if a0 = 0 then x2 else (let x5 := if ¬ a0 = 1 then 0 else (let x5 := x2 / 2; x5); x5)) → ∀ ls : Array Slot, lv_has ls 7 [(0, .ref (ad 0)), (1, .ref (ad (60 + v))), (2, .int a0), (3, .int x4)] → W p l e (headSpec wsX3_inject ({ frames := 2, cells := 0, slots := 0, locals := 43 })).room s m ([.ref (ad 0), .ref (ad (60 + v)), .int a0] : List Value).toArray below meth c s.heap [] 0 0 (MQ below (z_Qi (rX3_inject M v a0) (fun H => zW dC dI ca ad (fX3_inject M v a0) H ∧ z_Fx M (fX3_inject M v a0)) (z_A zd ad)) ([.ref (ad 0), .ref (ad (60 + v)), .int a0] : List Value).toArray s 0 0 (z_A zd ad)) (F0 m 24 ls []) := by
    intro x4 ex4 ls hl
    refine lv_aload_n hx hb dX3_inject_24 rfl (lv_at hl 0 rfl) ?_
    refine lv_iload_n hx hb dX3_inject_25 rfl (lv_at hl 3 rfl) ?_
    refine lv_aload_n hx hb dX3_inject_26 rfl (lv_at hl 0 rfl) ?_
    refine z_gr (D := (dC, dI)) (cl := vwCl) (C := RX3) (T := TX3) (N := 15) (ci := 3) (k := 4) hx hb hts hinX3 hown hK hH zk_0 (by decide) rfl (by decide) rfl (zr_0 (k := 4) (by decide)) (hts (.fieldLink RX3 38 "Steamfield$Land" "pond" "LSteamfield$Water;") (by decide +kernel)) (fun _ h9 => h9) dX3_inject_27 ?_
    refine z_giN (D := (dC, dI)) (cl := vwCl) (C := RX6) (T := TX6) (N := 4) (ci := 6) (k := 0) hx hb hts hinX6 hown hK hH zk_5 (by decide) rfl (by decide) rfl (hN (.fieldLinkNest RX3 204 "Steamfield$Water" "mass" "I" "Steamfield") (by decide +kernel)) (fun _ h9 => h9) dX3_inject_30 ?_
    refine lv_topi (fun x6 ex6 => ?_)
    refine va_mmin hx hb (hml.trans hl.1.symm) hown (hts (.methodLink RX3 216 Lib.Math.min.name) (by decide +kernel)) (hts (.static Lib.Math.min.name) (by decide +kernel)) (hts (.initialized "java/lang/Math") (by decide +kernel)) (hts (.code Lib.Math.min.name Lib.Math.min.code 2 (some .int)) (by decide +kernel)) (Nat.le_of_ble_eq_true rfl) (Nat.le_of_ble_eq_true rfl) (Nat.le_refl _) (Nat.le_refl _) dX3_inject_33 ?_
    refine lv_topi (fun x7 ex7 => ?_)
    refine z_cVv (D := (dC, dI)) (cl := vwCl) (tys := zt ca) (nw := zw_nest) (C := RX3) (As := [.int x7]) (rest := []) ⟨hx, hb, hml, hown, hts⟩ (m_X3_drain l dC dI ca ad hI M x7 hOk) (cwV 1 hts gX3_inject_X3_drain rfl rfl rfl (by decide +kernel) ⟨Nat.le_of_ble_eq_true rfl, Nat.le_of_ble_eq_true rfl⟩) (z_recv (ci := 3) (i := 0) hK hH zk_0 (by decide) rfl) hH hK hN zw_nest_ok rfl hl.1 rfl (Nat.le_of_ble_eq_true rfl) dX3_inject_36 ⟨Nat.le_refl _, Nat.le_refl _⟩ hS (fun _ h => h) (fun H locs hB1 oq1 hz1 hS => ?_)
    obtain ⟨hH, hFc⟩ := hB1
    obtain ⟨M8, hM8⟩ : ∃ z : zM, z = fX3_drain M x7 := ⟨_, rfl⟩
    have hH : z_H (dC, dI) vwCl zf ca zd ad M8 H := by rw [hM8]; exact hH
    have hFx : z_Fx M M8 := hFx.tr (by rw [hM8]; exact hFc)
    have hOk : z_Ok M8 := hOk0.fx hFx
    refine lv_aload_n hx hb dX3_inject_39 rfl (lv_at hl 0 rfl) ?_
    refine z_gr (D := (dC, dI)) (cl := vwCl) (C := RX3) (T := TX3) (N := 15) (ci := 3) (k := 0) hx hb hts hinX3 hown hK hH zk_0 (by decide) rfl (by decide) rfl (zr_0 (k := 0) (by decide)) (hts (.fieldLink RX3 11 "Steamfield$Land" "blocks" "[LSteamfield$Block;") (by decide +kernel)) (fun _ h9 => h9) dX3_inject_40 ?_
    refine lv_aload_n hx hb dX3_inject_43 rfl (lv_at hl 1 rfl) ?_
    refine z_giN (D := (dC, dI)) (cl := vwCl) (C := RX7) (T := TX7) (N := 9) (ci := 7) (k := 0) hx hb hts hinX7 hown hK hH (zk_v h_v) (by decide) rfl (by decide) rfl (hN (.fieldLinkNest RX3 220 "Steamfield$Well" "block" "I" "Steamfield") (by decide +kernel)) (fun _ h9 => h9) dX3_inject_44 ?_
    refine lv_topi (fun x9 ex9 => ?_)
    have hx9 : z_ix x9 8 := by rw [ex9]; exact z_Ok.wblock hOk h_v
    refine z_aq (t0 := 1) (D := (dC, dI)) (cl := vwCl) (tys := zt ca) hx hb hK hH zk_1 (by decide) (by decide) rfl (show vp_in x9 8 from (z_ix.in hx9)) (show zr 1 (x9 : Int32).toNatClampNeg = some (20 + x9.toNatClampNeg) from zr_1 (z_ix.lt hx9)) dX3_inject_47 ?_
    refine lv_astore (lv' := [(4, .ref (ad (20 + x9.toNatClampNeg))), (0, .ref (ad 0)), (1, .ref (ad (60 + v))), (2, .int a0), (3, .int x4)]) hx hb dX3_inject_48 hl (by decide) rfl (fun ls hl => ?_)
    refine lv_aload hx hb dX3_inject_50 (lv_at hl 0 rfl) ?_
    refine z_cVi (D := (dC, dI)) (cl := vwCl) (tys := zt ca) (nw := zw_nest) (C := RX0) (As := []) (rest := []) ⟨hx, hb, hml, hown, hts⟩ (m_X0_pressure l dC dI ca ad hI M8 x9.toNatClampNeg (z_ix.lt hx9)) (cwV 0 hts gX3_inject_X0_pressure rfl rfl rfl (by decide +kernel) ⟨Nat.le_of_ble_eq_true rfl, Nat.le_of_ble_eq_true rfl⟩) (z_recv (ci := 0) (i := (20 + x9.toNatClampNeg)) hK hH (zk_b (z_ix.lt hx9)) (by decide) rfl) hH hK hN zw_nest_ok rfl hl.1 rfl (Nat.le_of_ble_eq_true rfl) dX3_inject_52 ⟨Nat.le_refl _, Nat.le_refl _⟩ hS (fun _ h => h) (fun H locs hB1 oq1 hz1 hS => ?_)
    have hH := hB1
    refine lv_topi (fun x10 ex10 => ?_)
    refine lv_istore (lv' := [(5, .int x10), (4, .ref (ad (20 + x9.toNatClampNeg))), (0, .ref (ad 0)), (1, .ref (ad (60 + v))), (2, .int a0), (3, .int x4)]) hx hb dX3_inject_55 hl (by decide) rfl (fun ls hl => ?_)
    refine lv_aload hx hb dX3_inject_57 (lv_at hl 1 rfl) ?_
    refine z_grN (D := (dC, dI)) (cl := vwCl) (C := RX0) (T := TX0) (N := 3) (ci := 0) (k := 0) hx hb hts hinX0 hown hK hH (zk_b (z_ix.lt hx9)) (by decide) rfl (by decide) rfl (zr_b (z_ix.lt hx9)) (hN (.fieldLinkNest RX3 123 "Steamfield$Block" "water" "LSteamfield$Water;" "Steamfield") (by decide +kernel)) (fun _ h9 => h9) dX3_inject_59 ?_
    refine lv_aload_n hx hb dX3_inject_62 rfl (lv_at hl 2 rfl) ?_
    refine z_gr (D := (dC, dI)) (cl := vwCl) (C := RX3) (T := TX3) (N := 15) (ci := 3) (k := 9) hx hb hts hinX3 hown hK hH zk_0 (by decide) rfl (by decide) rfl (zr_0 (k := 9) (by decide)) (hts (.fieldLink RX3 63 "Steamfield$Land" "load" "LSteamfield$Water;") (by decide +kernel)) (fun _ h9 => h9) dX3_inject_63 ?_
    refine z_cVv (D := (dC, dI)) (cl := vwCl) (tys := zt ca) (nw := zw_nest) (C := RX6) (As := [.ref (ad 10)]) (rest := []) ⟨hx, hb, hml, hown, hts⟩ (m_X6_add l dC dI ca ad hI M8 (30 + x9.toNatClampNeg) (zk_w (z_ix.lt hx9)) 10 zk_10) (cwV 1 hts gX3_inject_X6_add rfl rfl rfl (by decide +kernel) ⟨Nat.le_of_ble_eq_true rfl, Nat.le_of_ble_eq_true rfl⟩) (z_recv (ci := 6) (i := (30 + x9.toNatClampNeg)) hK hH (zk_w (z_ix.lt hx9)) (by decide) rfl) hH hK hN zw_nest_ok rfl hl.1 rfl (Nat.le_of_ble_eq_true rfl) dX3_inject_66 ⟨Nat.le_refl _, Nat.le_refl _⟩ hS (fun _ h => h) (fun H locs hB1 oq1 hz1 hS => ?_)
    have hH := hB1
    obtain ⟨M11, hM11⟩ : ∃ z : zM, z = fX6_add M8 (30 + x9.toNatClampNeg) 10 := ⟨_, rfl⟩
    have hH : z_H (dC, dI) vwCl zf ca zd ad M11 H := by rw [hM11]; exact hH
    have hFx : z_Fx M M11 := hFx.tr (by rw [hM11]; exact (fx_X6_add M8 (30 + x9.toNatClampNeg) (zk_w (z_ix.lt hx9)) 10 zk_10))
    have hOk : z_Ok M11 := hOk0.fx hFx
    refine lv_aload_n hx hb dX3_inject_69 rfl (lv_at hl 3 rfl) ?_
    refine lv_aload_n hx hb dX3_inject_70 rfl (lv_at hl 2 rfl) ?_
    refine z_gr (D := (dC, dI)) (cl := vwCl) (C := RX3) (T := TX3) (N := 15) (ci := 3) (k := 9) hx hb hts hinX3 hown hK hH zk_0 (by decide) rfl (by decide) rfl (zr_0 (k := 9) (by decide)) (hts (.fieldLink RX3 63 "Steamfield$Land" "load" "LSteamfield$Water;") (by decide +kernel)) (fun _ h9 => h9) dX3_inject_71 ?_
    refine lv_iconst (v := 0) hx hb dX3_inject_74 (by decide) ?_
    refine z_cVv (D := (dC, dI)) (cl := vwCl) (tys := zt ca) (nw := zw_nest) (C := RX7) (As := [.ref (ad 10), .int 0]) (rest := []) ⟨hx, hb, hml, hown, hts⟩ (m_X7_note l dC dI ca ad hI M11 v h_v 10 zk_10 0) (cwV 2 hts gX3_inject_X7_note rfl rfl rfl (by decide +kernel) ⟨Nat.le_of_ble_eq_true rfl, Nat.le_of_ble_eq_true rfl⟩) (z_recv (ci := 7) (i := (60 + v)) hK hH (zk_v h_v) (by decide) rfl) hH hK hN zw_nest_ok rfl hl.1 rfl (Nat.le_of_ble_eq_true rfl) dX3_inject_75 ⟨Nat.le_refl _, Nat.le_refl _⟩ hS (fun _ h => h) (fun H locs hB1 oq1 hz1 hS => ?_)
    have hH := hB1
    obtain ⟨M12, hM12⟩ : ∃ z : zM, z = fX7_note M11 v 10 0 := ⟨_, rfl⟩
    have hH : z_H (dC, dI) vwCl zf ca zd ad M12 H := by rw [hM12]; exact hH
    have hFx : z_Fx M M12 := hFx.tr (by rw [hM12]; exact (fx_X7_note M11 v h_v 10 zk_10 0))
    have hOk : z_Ok M12 := hOk0.fx hFx
    refine lv_aload hx hb dX3_inject_78 (lv_at hl 1 rfl) ?_
    refine z_cVi (D := (dC, dI)) (cl := vwCl) (tys := zt ca) (nw := zw_nest) (C := RX0) (As := []) (rest := []) ⟨hx, hb, hml, hown, hts⟩ (m_X0_pressure l dC dI ca ad hI M12 x9.toNatClampNeg (z_ix.lt hx9)) (cwV 0 hts gX3_inject_X0_pressure rfl rfl rfl (by decide +kernel) ⟨Nat.le_of_ble_eq_true rfl, Nat.le_of_ble_eq_true rfl⟩) (z_recv (ci := 0) (i := (20 + x9.toNatClampNeg)) hK hH (zk_b (z_ix.lt hx9)) (by decide) rfl) hH hK hN zw_nest_ok rfl hl.1 rfl (Nat.le_of_ble_eq_true rfl) dX3_inject_80 ⟨Nat.le_refl _, Nat.le_refl _⟩ hS (fun _ h => h) (fun H locs hB1 oq1 hz1 hS => ?_)
    have hH := hB1
    refine lv_topi (fun x13 ex13 => ?_)
    refine lv_iload hx hb dX3_inject_83 (lv_at hl 0 rfl) ?_
    refine lv_isub hx hb dX3_inject_85 ?_
    refine lv_topi (fun x14 ex14 => ?_)
    refine lv_istore (lv' := [(6, .int x14), (5, .int x10), (4, .ref (ad (20 + x9.toNatClampNeg))), (0, .ref (ad 0)), (1, .ref (ad (60 + v))), (2, .int a0), (3, .int x4)]) hx hb dX3_inject_86 hl (by decide) rfl (fun ls hl => ?_)
    refine lv_iload hx hb dX3_inject_88 (lv_at hl 0 rfl) ?_
    refine lv_iconst (v := 5) hx hb dX3_inject_90 (by decide) ?_
    have J17 : ∀ x16 : Int32, x16 = (if x14 < 5 then 0 else x14) → ∀ ls : Array Slot, lv_has ls 7 [(0, .ref (ad 0)), (1, .ref (ad (60 + v))), (2, .int a0), (3, .int x4), (4, .ref (ad (20 + x9.toNatClampNeg))), (5, .int x10), (6, .int x14)] → W p l e (headSpec wsX3_inject ({ frames := 2, cells := 0, slots := 0, locals := 43 })).room s m ([.ref (ad 0), .ref (ad (60 + v)), .int a0] : List Value).toArray below meth c H locs 0 0 (MQ below (z_Qi (rX3_inject M v a0) (fun H => zW dC dI ca ad (fX3_inject M v a0) H ∧ z_Fx M (fX3_inject M v a0)) (z_A zd ad)) ([.ref (ad 0), .ref (ad (60 + v)), .int a0] : List Value).toArray s 0 0 (z_A zd ad)) (F0 m 100 ls [.int x16]) := by
      intro x16 ex16 ls hl
      have hF : zW dC dI ca ad (fX3_inject M v a0) H := by
        have e9 : M12 = fX3_inject M v a0 := by subst ex16; subst ex14; subst ex13; subst hM12; subst hM11; subst ex10; subst ex9; subst hM8; subst ex7; subst ex6; subst ex4; subst ex2; subst ex1; rfl
        rw [← e9]; exact hH
      have hFF : z_Fx M (fX3_inject M v a0) := by
        have e9 : M12 = fX3_inject M v a0 := by subst ex16; subst ex14; subst ex13; subst hM12; subst hM11; subst ex10; subst ex9; subst hM8; subst ex7; subst ex6; subst ex4; subst ex2; subst ex1; rfl
        rw [← e9]; exact hFx
      have hR : x16 = rX3_inject M v a0 := by subst ex16; subst ex14; subst ex13; subst hM12; subst hM11; subst ex10; subst ex9; subst hM8; subst ex7; subst ex6; subst ex4; subst ex2; subst ex1; rfl
      exact W.iret (v := x16) hx hb hr (fun t ht hW => ⟨⟨x16, (), rfl, hR, z_to (B := fun H => zW dC dI ca ad (fX3_inject M v a0) H ∧ z_Fx M (fX3_inject M v a0)) ht ⟨hF, hFF⟩⟩, hS.F ht⟩) hS.2.2 dX3_inject_100
    refine lv_icmp_lt (tgt := 99) hx hb dX3_inject_91 (by decide) (fun c15 => ?_) (fun c15 => ?_)
    · refine lv_iconst (v := 0) hx hb dX3_inject_99 (by decide) ?_
      exact J17 _ (by exact (if_pos c15).symm) ls (lv_sub hl [3, 4, 5, 6, 2, 1, 0] rfl)
    · refine lv_iload hx hb dX3_inject_94 (lv_at hl 0 rfl) ?_
      refine lv_goto (tgt := 100) hx hb dX3_inject_96 (by decide) ?_
      exact J17 _ (by exact (if_neg c15).symm) ls (lv_sub hl [3, 4, 5, 6, 2, 1, 0] rfl)
  refine lv_if_eq (tgt := 24) hx hb dX3_inject_8 (by decide) (fun c3 => ?_) (fun c3 => ?_)
  · exact J5 _ (by exact (if_pos c3).symm) ls (lv_sub hl [1, 2, 3, 0] rfl)
  · refine lv_iload_n hx hb dX3_inject_11 rfl (lv_at hl 3 rfl) ?_
    refine lv_iconst (v := 1) hx hb dX3_inject_12 (by decide) ?_
    have J6 : ∀ x5 : Int32, x5 = (if ¬ a0 = 1 then 0 else (let x5 := x2 / 2; x5)) → ∀ ls : Array Slot, lv_has ls 7 [(0, .ref (ad 0)), (1, .ref (ad (60 + v))), (2, .int a0), (3, .int x2)] → W p l e (headSpec wsX3_inject ({ frames := 2, cells := 0, slots := 0, locals := 43 })).room s m ([.ref (ad 0), .ref (ad (60 + v)), .int a0] : List Value).toArray below meth c s.heap [] 0 0 (MQ below (z_Qi (rX3_inject M v a0) (fun H => zW dC dI ca ad (fX3_inject M v a0) H ∧ z_Fx M (fX3_inject M v a0)) (z_A zd ad)) ([.ref (ad 0), .ref (ad (60 + v)), .int a0] : List Value).toArray s 0 0 (z_A zd ad)) (F0 m 23 ls [.int x5]) := by
      intro x5 ex5 ls hl
      refine lv_istore_n (lv' := [(3, .int x5), (0, .ref (ad 0)), (1, .ref (ad (60 + v))), (2, .int a0)]) hx hb dX3_inject_23 rfl hl (by decide) rfl (fun ls hl => ?_)
      exact J5 _ (by subst ex5; exact (if_neg c3).symm) ls (lv_sub hl [1, 2, 3, 0] rfl)
    refine lv_icmp_ne (tgt := 22) hx hb dX3_inject_13 (by decide) (fun c4 => ?_) (fun c4 => ?_)
    · refine lv_iconst (v := 0) hx hb dX3_inject_22 (by decide) ?_
      exact J6 _ (by exact (if_pos c4).symm) ls (lv_sub hl [1, 2, 3, 0] rfl)
    · refine lv_iload_n hx hb dX3_inject_16 rfl (lv_at hl 0 rfl) ?_
      refine lv_iconst (v := 2) hx hb dX3_inject_17 (by decide) ?_
      refine lv_idiv hx hb dX3_inject_18 (by decide) ?_
      refine lv_topi (fun x5 ex5 => ?_)
      refine lv_goto (tgt := 23) hx hb dX3_inject_19 (by decide) ?_
      exact J6 _ (by subst ex5; exact (if_neg (fun hh => hh c4)).symm) ls (lv_sub hl [1, 2, 3, 0] rfl)

def fX3_letFlow (M : zM) (s0 : Nat) : zM :=
  let x1 := M (70 + s0) 0
  let x2 := rX0_pressure M x1.toNatClampNeg
  let x3 := M (70 + s0) 1
  let x4 := x2 - x3
  let x5 := if x4 < 0 then 0 else x4
  let x6 := x5 / 5
  let M7 := fX0_take M x1.toNatClampNeg x6 10
  let M8 := fX6_add M7 13 10
  let x9 := M8 10 0
  let M10 := fX5_note M8 s0 x9
  M10
set_option maxHeartbeats 4000000 in
set_option maxRecDepth 100000 in
theorem m_X3_letFlow (l : Launch) (dC : Nat → ClassId) (dI : Nat → Nat → Nat) (ca : Nat → ClassId) (ad : Nat → Nat) (hI : z_I zd ad) (M : zM) (s0 : Nat) (h_s0 : s0 < 3) (hOk0 : z_Ok M) : Met l yX3_letFlow wsX3_letFlow ({ frames := 2, cells := 0, slots := 0, locals := 45 }) (z_Pc (dC, dI) vwCl (zt ca) zw_nest [.ref (ad 0), .ref (ad (70 + s0))] (fun H => zW dC dI ca ad M H)) (z_Qv (fun H => zW dC dI ca ad (fX3_letFlow M s0) H ∧ z_Fx M (fX3_letFlow M s0)) (z_A zd ad)) 0 0 (z_A zd ad) := by
  refine Met.ofW (cc := cX3_letFlow) (maxL := 3) (ret := none) (by decide) rfl ?_
  intro p e s m args below meth c s₁ B hml hv
  obtain ⟨rfl, hH, hK, hN⟩ := hv
  have hx := B.exec
  have hb := B.bytes
  have hr := B.returns
  have hts := atoms_spec (ws := wsX3_letFlow) B.pre
  have hown : s.vm.findClass RX3 = some m.cls := findClass_of_methodNamed B.named
  have hlocks := B.notSynchronized
  have hS : va_S (z_A zd ad) s.heap s.heap [] := va_S.rf
  have hOk := hOk0
  have hFx : z_Fx M M := z_Fx.rf
  have hH : z_H (dC, dI) vwCl zf ca zd ad M s.heap := hH
  have hinX1 : ∀ w ∈ u_ws RX1 TX1 5, w ∈ wsX3_letFlow := by decide +kernel
  have hinX3 : ∀ w ∈ u_ws RX3 TX3 15, w ∈ wsX3_letFlow := by decide +kernel
  have hinX5 : ∀ w ∈ u_ws RX5 TX5 7, w ∈ wsX3_letFlow := by decide +kernel
  have hinX6 : ∀ w ∈ u_ws RX6 TX6 4, w ∈ wsX3_letFlow := by decide +kernel
  have hl := lv_entry ([.ref (ad 0), .ref (ad (70 + s0))]) (n := 3) (Nat.le_of_ble_eq_true rfl)
  rw [lg_entry_eq]
  generalize (lg_sl ([.ref (ad 0), .ref (ad (70 + s0))]) ++ List.replicate (3 - (lg_sl ([.ref (ad 0), .ref (ad (70 + s0))])).length) Slot.unset).toArray = ls at hl ⊢
  have hl : lv_has ls 3 [(0, .ref (ad 0)), (1, .ref (ad (70 + s0)))] := hl
  refine lv_aload_n hx hb dX3_letFlow_0 rfl (lv_at hl 0 rfl) ?_
  refine z_gr (D := (dC, dI)) (cl := vwCl) (C := RX3) (T := TX3) (N := 15) (ci := 3) (k := 0) hx hb hts hinX3 hown hK hH zk_0 (by decide) rfl (by decide) rfl (zr_0 (k := 0) (by decide)) (hts (.fieldLink RX3 11 "Steamfield$Land" "blocks" "[LSteamfield$Block;") (by decide +kernel)) (fun _ h9 => h9) dX3_letFlow_1 ?_
  refine lv_aload_n hx hb dX3_letFlow_4 rfl (lv_at hl 1 rfl) ?_
  refine z_giN (D := (dC, dI)) (cl := vwCl) (C := RX5) (T := TX5) (N := 7) (ci := 5) (k := 0) hx hb hts hinX5 hown hK hH (zk_s h_s0) (by decide) rfl (by decide) rfl (hN (.fieldLinkNest RX3 275 "Steamfield$Spring" "block" "I" "Steamfield") (by decide +kernel)) (fun _ h9 => h9) dX3_letFlow_5 ?_
  refine lv_topi (fun x1 ex1 => ?_)
  have hx1 : z_ix x1 8 := by rw [ex1]; exact z_Ok.sblock hOk h_s0
  refine z_aq (t0 := 1) (D := (dC, dI)) (cl := vwCl) (tys := zt ca) hx hb hK hH zk_1 (by decide) (by decide) rfl (show vp_in x1 8 from (z_ix.in hx1)) (show zr 1 (x1 : Int32).toNatClampNeg = some (20 + x1.toNatClampNeg) from zr_1 (z_ix.lt hx1)) dX3_letFlow_8 ?_
  refine lv_astore_n (lv' := [(2, .ref (ad (20 + x1.toNatClampNeg))), (0, .ref (ad 0)), (1, .ref (ad (70 + s0)))]) hx hb dX3_letFlow_9 rfl hl (by decide) rfl (fun ls hl => ?_)
  refine lv_aload_n hx hb dX3_letFlow_10 rfl (lv_at hl 0 rfl) ?_
  refine lv_aload_n hx hb dX3_letFlow_11 rfl (lv_at hl 0 rfl) ?_
  refine z_cVi (D := (dC, dI)) (cl := vwCl) (tys := zt ca) (nw := zw_nest) (C := RX0) (As := []) (rest := [.ref (ad (20 + x1.toNatClampNeg))]) ⟨hx, hb, hml, hown, hts⟩ (m_X0_pressure l dC dI ca ad hI M x1.toNatClampNeg (z_ix.lt hx1)) (cwV 0 hts gX3_letFlow_X0_pressure rfl rfl rfl (by decide +kernel) ⟨Nat.le_of_ble_eq_true rfl, Nat.le_of_ble_eq_true rfl⟩) (z_recv (ci := 0) (i := (20 + x1.toNatClampNeg)) hK hH (zk_b (z_ix.lt hx1)) (by decide) rfl) hH hK hN zw_nest_ok rfl hl.1 rfl (Nat.le_of_ble_eq_true rfl) dX3_letFlow_12 ⟨Nat.le_refl _, Nat.le_refl _⟩ hS (fun _ h => h) (fun H locs hB1 oq1 hz1 hS => ?_)
  have hH := hB1
  refine lv_topi (fun x2 ex2 => ?_)
  refine lv_aload_n hx hb dX3_letFlow_15 rfl (lv_at hl 2 rfl) ?_
  refine z_giN (D := (dC, dI)) (cl := vwCl) (C := RX5) (T := TX5) (N := 7) (ci := 5) (k := 1) hx hb hts hinX5 hown hK hH (zk_s h_s0) (by decide) rfl (by decide) rfl (hN (.fieldLinkNest RX3 276 "Steamfield$Spring" "level" "I" "Steamfield") (by decide +kernel)) (fun _ h9 => h9) dX3_letFlow_16 ?_
  refine lv_topi (fun x3 ex3 => ?_)
  refine lv_isub hx hb dX3_letFlow_19 ?_
  refine lv_topi (fun x4 ex4 => ?_)
  refine lv_iconst (v := 0) hx hb dX3_letFlow_20 (by decide) ?_
  refine va_mmax hx hb (hml.trans hl.1.symm) hown (hts (.methodLink RX3 226 Lib.Math.max.name) (by decide +kernel)) (hts (.static Lib.Math.max.name) (by decide +kernel)) (hts (.initialized "java/lang/Math") (by decide +kernel)) (hts (.code Lib.Math.max.name Lib.Math.max.code 2 (some .int)) (by decide +kernel)) (Nat.le_of_ble_eq_true rfl) (Nat.le_of_ble_eq_true rfl) (Nat.le_refl _) (Nat.le_refl _) dX3_letFlow_21 ?_
  refine lv_topi (fun x5 ex5 => ?_)
  refine lv_iconst (v := 5) hx hb dX3_letFlow_24 (by decide) ?_
  refine lv_idiv hx hb dX3_letFlow_25 (by decide) ?_
  refine lv_topi (fun x6 ex6 => ?_)
  refine lv_aload_n hx hb dX3_letFlow_26 rfl (lv_at hl 1 rfl) ?_
  refine z_gr (D := (dC, dI)) (cl := vwCl) (C := RX3) (T := TX3) (N := 15) (ci := 3) (k := 9) hx hb hts hinX3 hown hK hH zk_0 (by decide) rfl (by decide) rfl (zr_0 (k := 9) (by decide)) (hts (.fieldLink RX3 63 "Steamfield$Land" "load" "LSteamfield$Water;") (by decide +kernel)) (fun _ h9 => h9) dX3_letFlow_27 ?_
  refine z_cVv (D := (dC, dI)) (cl := vwCl) (tys := zt ca) (nw := zw_nest) (C := RX0) (As := [.int x6, .ref (ad 10)]) (rest := []) ⟨hx, hb, hml, hown, hts⟩ (m_X0_take l dC dI ca ad hI M x1.toNatClampNeg (z_ix.lt hx1) x6 10 zk_10) (cwV 2 hts gX3_letFlow_X0_take rfl rfl rfl (by decide +kernel) ⟨Nat.le_of_ble_eq_true rfl, Nat.le_of_ble_eq_true rfl⟩) (z_recv (ci := 0) (i := (20 + x1.toNatClampNeg)) hK hH (zk_b (z_ix.lt hx1)) (by decide) rfl) hH hK hN zw_nest_ok rfl hl.1 rfl (Nat.le_of_ble_eq_true rfl) dX3_letFlow_30 ⟨Nat.le_refl _, Nat.le_refl _⟩ hS (fun _ h => h) (fun H locs hB1 oq1 hz1 hS => ?_)
  have hH := hB1
  obtain ⟨M7, hM7⟩ : ∃ z : zM, z = fX0_take M x1.toNatClampNeg x6 10 := ⟨_, rfl⟩
  have hH : z_H (dC, dI) vwCl zf ca zd ad M7 H := by rw [hM7]; exact hH
  have hFx : z_Fx M M7 := hFx.tr (by rw [hM7]; exact (fx_X0_take M x1.toNatClampNeg (z_ix.lt hx1) x6 10 zk_10))
  have hOk : z_Ok M7 := hOk0.fx hFx
  refine lv_aload_n hx hb dX3_letFlow_33 rfl (lv_at hl 1 rfl) ?_
  refine z_gr (D := (dC, dI)) (cl := vwCl) (C := RX3) (T := TX3) (N := 15) (ci := 3) (k := 6) hx hb hts hinX3 hown hK hH zk_0 (by decide) rfl (by decide) rfl (zr_0 (k := 6) (by decide)) (hts (.fieldLink RX3 52 "Steamfield$Land" "books" "LSteamfield$Books;") (by decide +kernel)) (fun _ h9 => h9) dX3_letFlow_34 ?_
  refine z_grN (D := (dC, dI)) (cl := vwCl) (C := RX1) (T := TX1) (N := 5) (ci := 1) (k := 2) hx hb hts hinX1 hown hK hH zk_7 (by decide) rfl (by decide) rfl (zr_7 (k := 2) (by decide)) (hN (.fieldLinkNest RX3 136 "Steamfield$Books" "sprung" "LSteamfield$Water;" "Steamfield") (by decide +kernel)) (fun _ h9 => h9) dX3_letFlow_37 ?_
  refine lv_aload_n hx hb dX3_letFlow_40 rfl (lv_at hl 1 rfl) ?_
  refine z_gr (D := (dC, dI)) (cl := vwCl) (C := RX3) (T := TX3) (N := 15) (ci := 3) (k := 9) hx hb hts hinX3 hown hK hH zk_0 (by decide) rfl (by decide) rfl (zr_0 (k := 9) (by decide)) (hts (.fieldLink RX3 63 "Steamfield$Land" "load" "LSteamfield$Water;") (by decide +kernel)) (fun _ h9 => h9) dX3_letFlow_41 ?_
  refine z_cVv (D := (dC, dI)) (cl := vwCl) (tys := zt ca) (nw := zw_nest) (C := RX6) (As := [.ref (ad 10)]) (rest := []) ⟨hx, hb, hml, hown, hts⟩ (m_X6_add l dC dI ca ad hI M7 13 zk_13 10 zk_10) (cwV 1 hts gX3_letFlow_X6_add rfl rfl rfl (by decide +kernel) ⟨Nat.le_of_ble_eq_true rfl, Nat.le_of_ble_eq_true rfl⟩) (z_recv (ci := 6) (i := 13) hK hH zk_13 (by decide) rfl) hH hK hN zw_nest_ok rfl hl.1 rfl (Nat.le_of_ble_eq_true rfl) dX3_letFlow_44 ⟨Nat.le_refl _, Nat.le_refl _⟩ hS (fun _ h => h) (fun H locs hB1 oq1 hz1 hS => ?_)
  have hH := hB1
  obtain ⟨M8, hM8⟩ : ∃ z : zM, z = fX6_add M7 13 10 := ⟨_, rfl⟩
  have hH : z_H (dC, dI) vwCl zf ca zd ad M8 H := by rw [hM8]; exact hH
  have hFx : z_Fx M M8 := hFx.tr (by rw [hM8]; exact (fx_X6_add M7 13 zk_13 10 zk_10))
  have hOk : z_Ok M8 := hOk0.fx hFx
  refine lv_aload_n hx hb dX3_letFlow_47 rfl (lv_at hl 2 rfl) ?_
  refine lv_aload_n hx hb dX3_letFlow_48 rfl (lv_at hl 1 rfl) ?_
  refine z_gr (D := (dC, dI)) (cl := vwCl) (C := RX3) (T := TX3) (N := 15) (ci := 3) (k := 9) hx hb hts hinX3 hown hK hH zk_0 (by decide) rfl (by decide) rfl (zr_0 (k := 9) (by decide)) (hts (.fieldLink RX3 63 "Steamfield$Land" "load" "LSteamfield$Water;") (by decide +kernel)) (fun _ h9 => h9) dX3_letFlow_49 ?_
  refine z_giN (D := (dC, dI)) (cl := vwCl) (C := RX6) (T := TX6) (N := 4) (ci := 6) (k := 0) hx hb hts hinX6 hown hK hH zk_10 (by decide) rfl (by decide) rfl (hN (.fieldLinkNest RX3 204 "Steamfield$Water" "mass" "I" "Steamfield") (by decide +kernel)) (fun _ h9 => h9) dX3_letFlow_52 ?_
  refine lv_topi (fun x9 ex9 => ?_)
  refine z_cVv (D := (dC, dI)) (cl := vwCl) (tys := zt ca) (nw := zw_nest) (C := RX5) (As := [.int x9]) (rest := []) ⟨hx, hb, hml, hown, hts⟩ (m_X5_note l dC dI ca ad hI M8 s0 h_s0 x9) (cwV 1 hts gX3_letFlow_X5_note rfl rfl rfl (by decide +kernel) ⟨Nat.le_of_ble_eq_true rfl, Nat.le_of_ble_eq_true rfl⟩) (z_recv (ci := 5) (i := (70 + s0)) hK hH (zk_s h_s0) (by decide) rfl) hH hK hN zw_nest_ok rfl hl.1 rfl (Nat.le_of_ble_eq_true rfl) dX3_letFlow_55 ⟨Nat.le_refl _, Nat.le_refl _⟩ hS (fun _ h => h) (fun H locs hB1 oq1 hz1 hS => ?_)
  have hH := hB1
  obtain ⟨M10, hM10⟩ : ∃ z : zM, z = fX5_note M8 s0 x9 := ⟨_, rfl⟩
  have hH : z_H (dC, dI) vwCl zf ca zd ad M10 H := by rw [hM10]; exact hH
  have hFx : z_Fx M M10 := hFx.tr (by rw [hM10]; exact (fx_X5_note M8 s0 h_s0 x9))
  have hOk : z_Ok M10 := hOk0.fx hFx
  have hF : zW dC dI ca ad (fX3_letFlow M s0) H := by
    have e9 : M10 = fX3_letFlow M s0 := by subst hM10; subst ex9; subst hM8; subst hM7; subst ex6; subst ex5; subst ex4; subst ex3; subst ex2; subst ex1; rfl
    rw [← e9]; exact hH
  have hFF : z_Fx M (fX3_letFlow M s0) := by
    have e9 : M10 = fX3_letFlow M s0 := by subst hM10; subst ex9; subst hM8; subst hM7; subst ex6; subst ex5; subst ex4; subst ex3; subst ex2; subst ex1; rfl
    rw [← e9]; exact hFx
  exact W.vret hx hb hr (fun t ht hW => ⟨⟨(), rfl, trivial, z_to (B := fun H => zW dC dI ca ad (fX3_letFlow M s0) H ∧ z_Fx M (fX3_letFlow M s0)) ht ⟨hF, hFF⟩⟩, hS.F ht⟩) hS.2.2 dX3_letFlow_58
end
section
def bX3_shareOf_4 (M : zM) (a0 : Int32) (k1 : Nat) (st : Int32) : Int32 :=
  let a4 := st
  let x6 := M 0 10
  let x8 := M (20 + k1) 2
  let x10 := if ¬ x8 = a0 then a4 else (let x10 := M (20 + k1) 1; let x11 := a4 + x10; x11)
  x10
def rX3_shareOf (M : zM) (a0 : Int32) : Int32 :=
  let a4 := (zit (bX3_shareOf_4 M a0) (zc10 M) 0)
  a4
set_option maxHeartbeats 4000000 in
set_option maxRecDepth 100000 in
theorem m_X3_shareOf (l : Launch) (dC : Nat → ClassId) (dI : Nat → Nat → Nat) (ca : Nat → ClassId) (ad : Nat → Nat) (hI : z_I zd ad) (M : zM) (a0 : Int32) (hOk0 : z_Ok M) : Met l yX3_shareOf wsX3_shareOf ({ frames := 0, cells := 0, slots := 0, locals := 0 }) (z_Pc (dC, dI) vwCl (zt ca) zw_nest [.ref (ad 0), .int a0] (fun H => zW dC dI ca ad M H)) (z_Qi (rX3_shareOf M a0) (fun H => zW dC dI ca ad M H) (z_A zd ad)) 0 0 (z_A zd ad) := by
  refine Met.ofW (cc := cX3_shareOf) (maxL := 4) (ret := (some .int)) (by decide) rfl ?_
  intro p e s m args below meth c s₁ B hml hv
  obtain ⟨rfl, hH, hK, hN⟩ := hv
  have hx := B.exec
  have hb := B.bytes
  have hr := B.returns
  have hts := atoms_spec (ws := wsX3_shareOf) B.pre
  have hown : s.vm.findClass RX3 = some m.cls := findClass_of_methodNamed B.named
  have hlocks := B.notSynchronized
  have hS : va_S (z_A zd ad) s.heap s.heap [] := va_S.rf
  have hOk := hOk0
  have hFx : z_Fx M M := z_Fx.rf
  have hH : z_H (dC, dI) vwCl zf ca zd ad M s.heap := hH
  have hinX0 : ∀ w ∈ u_ws RX0 TX0 3, w ∈ wsX3_shareOf := by decide +kernel
  have hinX3 : ∀ w ∈ u_ws RX3 TX3 15, w ∈ wsX3_shareOf := by decide +kernel
  have hl := lv_entry ([.ref (ad 0), .int a0]) (n := 4) (Nat.le_of_ble_eq_true rfl)
  rw [lg_entry_eq]
  generalize (lg_sl ([.ref (ad 0), .int a0]) ++ List.replicate (4 - (lg_sl ([.ref (ad 0), .int a0])).length) Slot.unset).toArray = ls at hl ⊢
  have hl : lv_has ls 4 [(0, .ref (ad 0)), (1, .int a0)] := hl
  refine lv_iconst (v := 0) hx hb dX3_shareOf_0 (by decide) ?_
  refine lv_istore_n (lv' := [(2, .int 0), (0, .ref (ad 0)), (1, .int a0)]) hx hb dX3_shareOf_1 rfl hl (by decide) rfl (fun ls hl => ?_)
  refine lv_iconst (v := 0) hx hb dX3_shareOf_2 (by decide) ?_
  refine lv_istore_n (lv' := [(3, .int 0), (2, .int 0), (0, .ref (ad 0)), (1, .int a0)]) hx hb dX3_shareOf_3 rfl hl (by decide) rfl (fun ls hl => ?_)
  have L5 : ∀ (d3 k1 : Nat), k1 ≤ zc10 M → zc10 M - k1 < d3 → ∀ a4 : Int32, a4 = zit (bX3_shareOf_4 M a0) k1 0 → ∀ i2 : Int32, i2 = nI k1 → ∀ ls : Array Slot, lv_has ls 4 [(0, .ref (ad 0)), (1, .int a0), (2, .int a4), (3, .int i2)] → W p l e (headSpec wsX3_shareOf ({ frames := 0, cells := 0, slots := 0, locals := 0 })).room s m ([.ref (ad 0), .int a0] : List Value).toArray below meth c s.heap [] 0 0 (MQ below (z_Qi (rX3_shareOf M a0) (fun H => zW dC dI ca ad M H) (z_A zd ad)) ([.ref (ad 0), .int a0] : List Value).toArray s 0 0 (z_A zd ad)) (F0 m 4 ls []) := by
    intro d3
    induction d3 with
    | zero => intro k1 hk1 hd; exact absurd hd (by omega)
    | succ d3 ih =>
      intro k1 hk1 hd a4 esk1 i2 ei2 ls hl
      refine lv_iload_n hx hb dX3_shareOf_4 rfl (lv_at hl 3 rfl) ?_
      refine lv_aload_n hx hb dX3_shareOf_5 rfl (lv_at hl 0 rfl) ?_
      refine z_gi (D := (dC, dI)) (cl := vwCl) (C := RX3) (T := TX3) (N := 15) (ci := 3) (k := 10) hx hb hts hinX3 hown hK hH zk_0 (by decide) rfl (by decide) rfl (hts (.fieldLink RX3 98 "Steamfield$Land" "blockCount" "I") (by decide +kernel)) (fun _ h9 => h9) dX3_shareOf_6 ?_
      refine lv_topi (fun x6 ex6 => ?_)
      have hx6 : x6 = nI (zc10 M) := by rw [ex6, hFx.c10]; exact z_Ok.c10 hOk0
      refine lv_icmp_ge (tgt := 43) hx hb dX3_shareOf_9 (by decide) (fun c7 => ?_) (fun c7 => ?_)
      · have hkk1 : k1 = zc10 M := z_ge hx6 ei2 hk1 (Nat.lt_of_le_of_lt (z_Ok.n10 hOk0) (by decide)) c7
        have qa4 : a4 = (zit (bX3_shareOf_4 M a0) (zc10 M) 0) := by rw [← hkk1, ← esk1]
        refine lv_iload_n hx hb dX3_shareOf_43 rfl (lv_at hl 2 rfl) ?_
        have hR : a4 = rX3_shareOf M a0 := by subst qa4; rfl
        exact W.iret (v := a4) hx hb hr (fun t ht hW => ⟨⟨a4, (), rfl, hR, z_to (B := fun H => zW dC dI ca ad M H) ht hH⟩, hS.F ht⟩) hS.2.2 dX3_shareOf_44
      · have hkk1 : k1 < zc10 M := z_lt hx6 ei2 hk1 (Nat.lt_of_le_of_lt (z_Ok.n10 hOk0) (by decide)) c7
        refine lv_aload_n hx hb dX3_shareOf_12 rfl (lv_at hl 0 rfl) ?_
        refine z_gr (D := (dC, dI)) (cl := vwCl) (C := RX3) (T := TX3) (N := 15) (ci := 3) (k := 0) hx hb hts hinX3 hown hK hH zk_0 (by decide) rfl (by decide) rfl (zr_0 (k := 0) (by decide)) (hts (.fieldLink RX3 11 "Steamfield$Land" "blocks" "[LSteamfield$Block;") (by decide +kernel)) (fun _ h9 => h9) dX3_shareOf_13 ?_
        refine lv_iload_n hx hb dX3_shareOf_16 rfl (lv_at hl 3 rfl) ?_
        refine z_aq (t0 := 1) (D := (dC, dI)) (cl := vwCl) (tys := zt ca) hx hb hK hH zk_1 (by decide) (by decide) rfl (show vp_in i2 8 from (zx ei2 (Nat.lt_of_lt_of_le hkk1 (z_Ok.n10 hOk0)) (by decide))) (show zr 1 (i2 : Int32).toNatClampNeg = some (20 + k1) from by rw [zx_n ei2 (Nat.lt_trans (Nat.lt_of_lt_of_le hkk1 (z_Ok.n10 hOk0)) (by decide : 8 < 2 ^ 31))]; exact zr_1 (Nat.lt_of_lt_of_le hkk1 (z_Ok.n10 hOk0))) dX3_shareOf_17 ?_
        refine z_giN (D := (dC, dI)) (cl := vwCl) (C := RX0) (T := TX0) (N := 3) (ci := 0) (k := 2) hx hb hts hinX0 hown hK hH (zk_b (Nat.lt_of_lt_of_le hkk1 (z_Ok.n10 hOk0))) (by decide) rfl (by decide) rfl (hN (.fieldLinkNest RX3 114 "Steamfield$Block" "owner" "I" "Steamfield") (by decide +kernel)) (fun _ h9 => h9) dX3_shareOf_18 ?_
        refine lv_topi (fun x8 ex8 => ?_)
        have hx8 : z_ix x8 2 := by rw [ex8]; exact z_Ok.owner hOk (Nat.lt_of_lt_of_le hkk1 (z_Ok.n10 hOk0))
        refine lv_iload_n hx hb dX3_shareOf_21 rfl (lv_at hl 1 rfl) ?_
        have J11 : ∀ x10 : Int32, x10 = (if ¬ x8 = a0 then a4 else (let x10 := M (20 + k1) 1; let x11 := a4 + x10; x11)) → ∀ ls : Array Slot, lv_has ls 4 [(0, .ref (ad 0)), (1, .int a0), (2, .int x10), (3, .int i2)] → W p l e (headSpec wsX3_shareOf ({ frames := 0, cells := 0, slots := 0, locals := 0 })).room s m ([.ref (ad 0), .int a0] : List Value).toArray below meth c s.heap [] 0 0 (MQ below (z_Qi (rX3_shareOf M a0) (fun H => zW dC dI ca ad M H) (z_A zd ad)) ([.ref (ad 0), .int a0] : List Value).toArray s 0 0 (z_A zd ad)) (F0 m 37 ls []) := by
          intro x10 ex10 ls hl
          obtain ⟨x12, ex12⟩ : ∃ z : Int32, z = i2 + 1 := ⟨_, rfl⟩
          refine lv_iinc (v := x12) (lv' := [(3, .int x12), (0, .ref (ad 0)), (1, .int a0), (2, .int x10)]) hx hb dX3_shareOf_37 hl (k := 3) rfl (by rw [ex12]; rfl) (by decide) rfl (fun ls hl => ?_)
          refine lv_goto (tgt := 4) hx hb dX3_shareOf_40 (by decide) ?_
          exact ih (k1 + 1) hkk1 (by omega) x10 (by show x10 = bX3_shareOf_4 M a0 k1 (zit (bX3_shareOf_4 M a0) k1 0); rw [← esk1]; subst ex12; subst ex10; subst ex8; subst ex6; rfl) x12 (z_nx ei2 ex12) ls (lv_sub hl [1, 2, 3, 0] rfl)
        refine lv_icmp_ne (tgt := 37) hx hb dX3_shareOf_22 (by decide) (fun c9 => ?_) (fun c9 => ?_)
        · exact J11 _ (by exact (if_pos c9).symm) ls (lv_sub hl [0, 1, 2, 3] rfl)
        · refine lv_iload_n hx hb dX3_shareOf_25 rfl (lv_at hl 2 rfl) ?_
          refine lv_aload_n hx hb dX3_shareOf_26 rfl (lv_at hl 0 rfl) ?_
          refine z_gr (D := (dC, dI)) (cl := vwCl) (C := RX3) (T := TX3) (N := 15) (ci := 3) (k := 0) hx hb hts hinX3 hown hK hH zk_0 (by decide) rfl (by decide) rfl (zr_0 (k := 0) (by decide)) (hts (.fieldLink RX3 11 "Steamfield$Land" "blocks" "[LSteamfield$Block;") (by decide +kernel)) (fun _ h9 => h9) dX3_shareOf_27 ?_
          refine lv_iload_n hx hb dX3_shareOf_30 rfl (lv_at hl 3 rfl) ?_
          refine z_aq (t0 := 1) (D := (dC, dI)) (cl := vwCl) (tys := zt ca) hx hb hK hH zk_1 (by decide) (by decide) rfl (show vp_in i2 8 from (zx ei2 (Nat.lt_of_lt_of_le hkk1 (z_Ok.n10 hOk0)) (by decide))) (show zr 1 (i2 : Int32).toNatClampNeg = some (20 + k1) from by rw [zx_n ei2 (Nat.lt_trans (Nat.lt_of_lt_of_le hkk1 (z_Ok.n10 hOk0)) (by decide : 8 < 2 ^ 31))]; exact zr_1 (Nat.lt_of_lt_of_le hkk1 (z_Ok.n10 hOk0))) dX3_shareOf_31 ?_
          refine z_giN (D := (dC, dI)) (cl := vwCl) (C := RX0) (T := TX0) (N := 3) (ci := 0) (k := 1) hx hb hts hinX0 hown hK hH (zk_b (Nat.lt_of_lt_of_le hkk1 (z_Ok.n10 hOk0))) (by decide) rfl (by decide) rfl (hN (.fieldLinkNest RX3 117 "Steamfield$Block" "volume" "I" "Steamfield") (by decide +kernel)) (fun _ h9 => h9) dX3_shareOf_32 ?_
          refine lv_topi (fun x10 ex10 => ?_)
          refine lv_iadd hx hb dX3_shareOf_35 ?_
          refine lv_topi (fun x11 ex11 => ?_)
          refine lv_istore_n (lv' := [(2, .int x11), (0, .ref (ad 0)), (1, .int a0), (3, .int i2)]) hx hb dX3_shareOf_36 rfl hl (by decide) rfl (fun ls hl => ?_)
          exact J11 _ (by subst ex11; subst ex10; exact (if_neg (fun hh => hh c9)).symm) ls (lv_sub hl [1, 2, 0, 3] rfl)
  exact L5 (zc10 M + 1) 0 (Nat.zero_le _) (by omega) 0 rfl _ rfl ls (lv_sub hl [2, 3, 1, 0] rfl)

def bX3_lackedEver_4 (M : zM) (k1 : Nat) (st : Int32) : Int32 :=
  let a4 := st
  let x6 := M 0 13
  let x8 := M (70 + k1) 6
  let x9 := a4 + x8
  x9
def rX3_lackedEver (M : zM)  : Int32 :=
  let a4 := (zit (bX3_lackedEver_4 M) (zc13 M) 0)
  a4
set_option maxHeartbeats 4000000 in
set_option maxRecDepth 100000 in
theorem m_X3_lackedEver (l : Launch) (dC : Nat → ClassId) (dI : Nat → Nat → Nat) (ca : Nat → ClassId) (ad : Nat → Nat) (hI : z_I zd ad) (M : zM) (hOk0 : z_Ok M) : Met l yX3_lackedEver wsX3_lackedEver ({ frames := 0, cells := 0, slots := 0, locals := 0 }) (z_Pc (dC, dI) vwCl (zt ca) zw_nest [.ref (ad 0)] (fun H => zW dC dI ca ad M H)) (z_Qi (rX3_lackedEver M ) (fun H => zW dC dI ca ad M H) (z_A zd ad)) 0 0 (z_A zd ad) := by
  refine Met.ofW (cc := cX3_lackedEver) (maxL := 3) (ret := (some .int)) (by decide) rfl ?_
  intro p e s m args below meth c s₁ B hml hv
  obtain ⟨rfl, hH, hK, hN⟩ := hv
  have hx := B.exec
  have hb := B.bytes
  have hr := B.returns
  have hts := atoms_spec (ws := wsX3_lackedEver) B.pre
  have hown : s.vm.findClass RX3 = some m.cls := findClass_of_methodNamed B.named
  have hlocks := B.notSynchronized
  have hS : va_S (z_A zd ad) s.heap s.heap [] := va_S.rf
  have hOk := hOk0
  have hFx : z_Fx M M := z_Fx.rf
  have hH : z_H (dC, dI) vwCl zf ca zd ad M s.heap := hH
  have hinX3 : ∀ w ∈ u_ws RX3 TX3 15, w ∈ wsX3_lackedEver := by decide +kernel
  have hinX5 : ∀ w ∈ u_ws RX5 TX5 7, w ∈ wsX3_lackedEver := by decide +kernel
  have hl := lv_entry ([.ref (ad 0)]) (n := 3) (Nat.le_of_ble_eq_true rfl)
  rw [lg_entry_eq]
  generalize (lg_sl ([.ref (ad 0)]) ++ List.replicate (3 - (lg_sl ([.ref (ad 0)])).length) Slot.unset).toArray = ls at hl ⊢
  have hl : lv_has ls 3 [(0, .ref (ad 0))] := hl
  refine lv_iconst (v := 0) hx hb dX3_lackedEver_0 (by decide) ?_
  refine lv_istore_n (lv' := [(1, .int 0), (0, .ref (ad 0))]) hx hb dX3_lackedEver_1 rfl hl (by decide) rfl (fun ls hl => ?_)
  refine lv_iconst (v := 0) hx hb dX3_lackedEver_2 (by decide) ?_
  refine lv_istore_n (lv' := [(2, .int 0), (1, .int 0), (0, .ref (ad 0))]) hx hb dX3_lackedEver_3 rfl hl (by decide) rfl (fun ls hl => ?_)
  have L5 : ∀ (d3 k1 : Nat), k1 ≤ zc13 M → zc13 M - k1 < d3 → ∀ a4 : Int32, a4 = zit (bX3_lackedEver_4 M) k1 0 → ∀ i2 : Int32, i2 = nI k1 → ∀ ls : Array Slot, lv_has ls 3 [(0, .ref (ad 0)), (1, .int a4), (2, .int i2)] → W p l e (headSpec wsX3_lackedEver ({ frames := 0, cells := 0, slots := 0, locals := 0 })).room s m ([.ref (ad 0)] : List Value).toArray below meth c s.heap [] 0 0 (MQ below (z_Qi (rX3_lackedEver M ) (fun H => zW dC dI ca ad M H) (z_A zd ad)) ([.ref (ad 0)] : List Value).toArray s 0 0 (z_A zd ad)) (F0 m 4 ls []) := by
    intro d3
    induction d3 with
    | zero => intro k1 hk1 hd; exact absurd hd (by omega)
    | succ d3 ih =>
      intro k1 hk1 hd a4 esk1 i2 ei2 ls hl
      refine lv_iload_n hx hb dX3_lackedEver_4 rfl (lv_at hl 2 rfl) ?_
      refine lv_aload_n hx hb dX3_lackedEver_5 rfl (lv_at hl 0 rfl) ?_
      refine z_gi (D := (dC, dI)) (cl := vwCl) (C := RX3) (T := TX3) (N := 15) (ci := 3) (k := 13) hx hb hts hinX3 hown hK hH zk_0 (by decide) rfl (by decide) rfl (hts (.fieldLink RX3 108 "Steamfield$Land" "springCount" "I") (by decide +kernel)) (fun _ h9 => h9) dX3_lackedEver_6 ?_
      refine lv_topi (fun x6 ex6 => ?_)
      have hx6 : x6 = nI (zc13 M) := by rw [ex6, hFx.c13]; exact z_Ok.c13 hOk0
      refine lv_icmp_ge (tgt := 30) hx hb dX3_lackedEver_9 (by decide) (fun c7 => ?_) (fun c7 => ?_)
      · have hkk1 : k1 = zc13 M := z_ge hx6 ei2 hk1 (Nat.lt_of_le_of_lt (z_Ok.n13 hOk0) (by decide)) c7
        have qa4 : a4 = (zit (bX3_lackedEver_4 M) (zc13 M) 0) := by rw [← hkk1, ← esk1]
        refine lv_iload_n hx hb dX3_lackedEver_30 rfl (lv_at hl 1 rfl) ?_
        have hR : a4 = rX3_lackedEver M  := by subst qa4; rfl
        exact W.iret (v := a4) hx hb hr (fun t ht hW => ⟨⟨a4, (), rfl, hR, z_to (B := fun H => zW dC dI ca ad M H) ht hH⟩, hS.F ht⟩) hS.2.2 dX3_lackedEver_31
      · have hkk1 : k1 < zc13 M := z_lt hx6 ei2 hk1 (Nat.lt_of_le_of_lt (z_Ok.n13 hOk0) (by decide)) c7
        refine lv_iload_n hx hb dX3_lackedEver_12 rfl (lv_at hl 1 rfl) ?_
        refine lv_aload_n hx hb dX3_lackedEver_13 rfl (lv_at hl 0 rfl) ?_
        refine z_gr (D := (dC, dI)) (cl := vwCl) (C := RX3) (T := TX3) (N := 15) (ci := 3) (k := 3) hx hb hts hinX3 hown hK hH zk_0 (by decide) rfl (by decide) rfl (zr_0 (k := 3) (by decide)) (hts (.fieldLink RX3 31 "Steamfield$Land" "springs" "[LSteamfield$Spring;") (by decide +kernel)) (fun _ h9 => h9) dX3_lackedEver_14 ?_
        refine lv_iload_n hx hb dX3_lackedEver_17 rfl (lv_at hl 2 rfl) ?_
        refine z_aq (t0 := 4) (D := (dC, dI)) (cl := vwCl) (tys := zt ca) hx hb hK hH zk_4 (by decide) (by decide) rfl (show vp_in i2 3 from (zx ei2 (Nat.lt_of_lt_of_le hkk1 (z_Ok.n13 hOk0)) (by decide))) (show zr 4 (i2 : Int32).toNatClampNeg = some (70 + k1) from by rw [zx_n ei2 (Nat.lt_trans (Nat.lt_of_lt_of_le hkk1 (z_Ok.n13 hOk0)) (by decide : 3 < 2 ^ 31))]; exact zr_4 (Nat.lt_of_lt_of_le hkk1 (z_Ok.n13 hOk0))) dX3_lackedEver_18 ?_
        refine z_giN (D := (dC, dI)) (cl := vwCl) (C := RX5) (T := TX5) (N := 7) (ci := 5) (k := 6) hx hb hts hinX5 hown hK hH (zk_s (Nat.lt_of_lt_of_le hkk1 (z_Ok.n13 hOk0))) (by decide) rfl (by decide) rfl (hN (.fieldLinkNest RX3 120 "Steamfield$Spring" "lackedEver" "I" "Steamfield") (by decide +kernel)) (fun _ h9 => h9) dX3_lackedEver_19 ?_
        refine lv_topi (fun x8 ex8 => ?_)
        refine lv_iadd hx hb dX3_lackedEver_22 ?_
        refine lv_topi (fun x9 ex9 => ?_)
        refine lv_istore_n (lv' := [(1, .int x9), (0, .ref (ad 0)), (2, .int i2)]) hx hb dX3_lackedEver_23 rfl hl (by decide) rfl (fun ls hl => ?_)
        obtain ⟨x10, ex10⟩ : ∃ z : Int32, z = i2 + 1 := ⟨_, rfl⟩
        refine lv_iinc (v := x10) (lv' := [(2, .int x10), (1, .int x9), (0, .ref (ad 0))]) hx hb dX3_lackedEver_24 hl (k := 2) rfl (by rw [ex10]; rfl) (by decide) rfl (fun ls hl => ?_)
        refine lv_goto (tgt := 4) hx hb dX3_lackedEver_27 (by decide) ?_
        exact ih (k1 + 1) hkk1 (by omega) x9 (by show x9 = bX3_lackedEver_4 M k1 (zit (bX3_lackedEver_4 M) k1 0); rw [← esk1]; subst ex10; subst ex9; subst ex8; subst ex6; rfl) x10 (z_nx ei2 ex10) ls (lv_sub hl [2, 1, 0] rfl)
  exact L5 (zc13 M + 1) 0 (Nat.zero_le _) (by omega) 0 rfl _ rfl ls (lv_sub hl [2, 1, 0] rfl)

def bX3_turnAll_2 (a0 : Int32) (a1 : Int32) (k1 : Nat) (st : zM) : zM :=
  let M4 := st
  let x6 := M4 0 12
  let x8 := M4 (60 + k1) 1
  let x10 := if x8 = 0 then a0 else a1
  let M12 := zu M4 (60 + k1) 2 x10
  M12
def fX3_turnAll (M : zM) (a0 : Int32) (a1 : Int32) : zM :=
  let M4 := (zit (bX3_turnAll_2 a0 a1) (zc12 M) M)
  M4
set_option maxHeartbeats 4000000 in
set_option maxRecDepth 100000 in
theorem m_X3_turnAll (l : Launch) (dC : Nat → ClassId) (dI : Nat → Nat → Nat) (ca : Nat → ClassId) (ad : Nat → Nat) (hI : z_I zd ad) (M : zM) (a0 : Int32) (a1 : Int32) (hOk0 : z_Ok M) : Met l yX3_turnAll wsX3_turnAll ({ frames := 0, cells := 0, slots := 0, locals := 0 }) (z_Pc (dC, dI) vwCl (zt ca) zw_nest [.ref (ad 0), .int a0, .int a1] (fun H => zW dC dI ca ad M H)) (z_Qv (fun H => zW dC dI ca ad (fX3_turnAll M a0 a1) H ∧ z_Fx M (fX3_turnAll M a0 a1)) (z_A zd ad)) 0 0 (z_A zd ad) := by
  refine Met.ofW (cc := cX3_turnAll) (maxL := 4) (ret := none) (by decide) rfl ?_
  intro p e s m args below meth c s₁ B hml hv
  obtain ⟨rfl, hH, hK, hN⟩ := hv
  have hx := B.exec
  have hb := B.bytes
  have hr := B.returns
  have hts := atoms_spec (ws := wsX3_turnAll) B.pre
  have hown : s.vm.findClass RX3 = some m.cls := findClass_of_methodNamed B.named
  have hlocks := B.notSynchronized
  have hS : va_S (z_A zd ad) s.heap s.heap [] := va_S.rf
  have hOk := hOk0
  have hFx : z_Fx M M := z_Fx.rf
  have hH : z_H (dC, dI) vwCl zf ca zd ad M s.heap := hH
  have hinX3 : ∀ w ∈ u_ws RX3 TX3 15, w ∈ wsX3_turnAll := by decide +kernel
  have hinX7 : ∀ w ∈ u_ws RX7 TX7 9, w ∈ wsX3_turnAll := by decide +kernel
  have hl := lv_entry ([.ref (ad 0), .int a0, .int a1]) (n := 4) (Nat.le_of_ble_eq_true rfl)
  rw [lg_entry_eq]
  generalize (lg_sl ([.ref (ad 0), .int a0, .int a1]) ++ List.replicate (4 - (lg_sl ([.ref (ad 0), .int a0, .int a1])).length) Slot.unset).toArray = ls at hl ⊢
  have hl : lv_has ls 4 [(0, .ref (ad 0)), (1, .int a0), (2, .int a1)] := hl
  refine lv_iconst (v := 0) hx hb dX3_turnAll_0 (by decide) ?_
  refine lv_istore_n (lv' := [(3, .int 0), (0, .ref (ad 0)), (1, .int a0), (2, .int a1)]) hx hb dX3_turnAll_1 rfl hl (by decide) rfl (fun ls hl => ?_)
  have L5 : ∀ (d3 k1 : Nat), k1 ≤ zc12 M → zc12 M - k1 < d3 → ∀ M4 : zM, M4 = zit (bX3_turnAll_2 a0 a1) k1 M → ∀ i2 : Int32, i2 = nI k1 → ∀ ls : Array Slot, lv_has ls 4 [(0, .ref (ad 0)), (1, .int a0), (2, .int a1), (3, .int i2)] → ∀ (H : Heap) (locs : List Loc), z_H (dC, dI) vwCl zf ca zd ad M4 H → z_Fx M M4 → va_S (z_A zd ad) s.heap H locs → W p l e (headSpec wsX3_turnAll ({ frames := 0, cells := 0, slots := 0, locals := 0 })).room s m ([.ref (ad 0), .int a0, .int a1] : List Value).toArray below meth c H locs 0 0 (MQ below (z_Qv (fun H => zW dC dI ca ad (fX3_turnAll M a0 a1) H ∧ z_Fx M (fX3_turnAll M a0 a1)) (z_A zd ad)) ([.ref (ad 0), .int a0, .int a1] : List Value).toArray s 0 0 (z_A zd ad)) (F0 m 2 ls []) := by
    intro d3
    induction d3 with
    | zero => intro k1 hk1 hd; exact absurd hd (by omega)
    | succ d3 ih =>
      intro k1 hk1 hd M4 esk1 i2 ei2 ls hl H locs hH hFx hS
      have hOk : z_Ok M4 := hOk0.fx hFx
      refine lv_iload_n hx hb dX3_turnAll_2 rfl (lv_at hl 3 rfl) ?_
      refine lv_aload_n hx hb dX3_turnAll_3 rfl (lv_at hl 0 rfl) ?_
      refine z_gi (D := (dC, dI)) (cl := vwCl) (C := RX3) (T := TX3) (N := 15) (ci := 3) (k := 12) hx hb hts hinX3 hown hK hH zk_0 (by decide) rfl (by decide) rfl (hts (.fieldLink RX3 105 "Steamfield$Land" "wellCount" "I") (by decide +kernel)) (fun _ h9 => h9) dX3_turnAll_4 ?_
      refine lv_topi (fun x6 ex6 => ?_)
      have hx6 : x6 = nI (zc12 M) := by rw [ex6, hFx.c12]; exact z_Ok.c12 hOk0
      refine lv_icmp_ge (tgt := 42) hx hb dX3_turnAll_7 (by decide) (fun c7 => ?_) (fun c7 => ?_)
      · have hkk1 : k1 = zc12 M := z_ge hx6 ei2 hk1 (Nat.lt_of_le_of_lt (z_Ok.n12 hOk0) (by decide)) c7
        have qM4 : M4 = (zit (bX3_turnAll_2 a0 a1) (zc12 M) M) := by rw [← hkk1, ← esk1]
        have hF : zW dC dI ca ad (fX3_turnAll M a0 a1) H := by
          have e9 : M4 = fX3_turnAll M a0 a1 := by subst qM4; rfl
          rw [← e9]; exact hH
        have hFF : z_Fx M (fX3_turnAll M a0 a1) := by
          have e9 : M4 = fX3_turnAll M a0 a1 := by subst qM4; rfl
          rw [← e9]; exact hFx
        exact W.vret hx hb hr (fun t ht hW => ⟨⟨(), rfl, trivial, z_to (B := fun H => zW dC dI ca ad (fX3_turnAll M a0 a1) H ∧ z_Fx M (fX3_turnAll M a0 a1)) ht ⟨hF, hFF⟩⟩, hS.F ht⟩) hS.2.2 dX3_turnAll_42
      · have hkk1 : k1 < zc12 M := z_lt hx6 ei2 hk1 (Nat.lt_of_le_of_lt (z_Ok.n12 hOk0) (by decide)) c7
        refine lv_aload_n hx hb dX3_turnAll_10 rfl (lv_at hl 0 rfl) ?_
        refine z_gr (D := (dC, dI)) (cl := vwCl) (C := RX3) (T := TX3) (N := 15) (ci := 3) (k := 2) hx hb hts hinX3 hown hK hH zk_0 (by decide) rfl (by decide) rfl (zr_0 (k := 2) (by decide)) (hts (.fieldLink RX3 25 "Steamfield$Land" "wells" "[LSteamfield$Well;") (by decide +kernel)) (fun _ h9 => h9) dX3_turnAll_11 ?_
        refine lv_iload_n hx hb dX3_turnAll_14 rfl (lv_at hl 3 rfl) ?_
        refine z_aq (t0 := 3) (D := (dC, dI)) (cl := vwCl) (tys := zt ca) hx hb hK hH zk_3 (by decide) (by decide) rfl (show vp_in i2 6 from (zx ei2 (Nat.lt_of_lt_of_le hkk1 (z_Ok.n12 hOk0)) (by decide))) (show zr 3 (i2 : Int32).toNatClampNeg = some (60 + k1) from by rw [zx_n ei2 (Nat.lt_trans (Nat.lt_of_lt_of_le hkk1 (z_Ok.n12 hOk0)) (by decide : 6 < 2 ^ 31))]; exact zr_3 (Nat.lt_of_lt_of_le hkk1 (z_Ok.n12 hOk0))) dX3_turnAll_15 ?_
        refine lv_aload_n hx hb dX3_turnAll_16 rfl (lv_at hl 0 rfl) ?_
        refine z_gr (D := (dC, dI)) (cl := vwCl) (C := RX3) (T := TX3) (N := 15) (ci := 3) (k := 2) hx hb hts hinX3 hown hK hH zk_0 (by decide) rfl (by decide) rfl (zr_0 (k := 2) (by decide)) (hts (.fieldLink RX3 25 "Steamfield$Land" "wells" "[LSteamfield$Well;") (by decide +kernel)) (fun _ h9 => h9) dX3_turnAll_17 ?_
        refine lv_iload_n hx hb dX3_turnAll_20 rfl (lv_at hl 3 rfl) ?_
        refine z_aq (t0 := 3) (D := (dC, dI)) (cl := vwCl) (tys := zt ca) hx hb hK hH zk_3 (by decide) (by decide) rfl (show vp_in i2 6 from (zx ei2 (Nat.lt_of_lt_of_le hkk1 (z_Ok.n12 hOk0)) (by decide))) (show zr 3 (i2 : Int32).toNatClampNeg = some (60 + k1) from by rw [zx_n ei2 (Nat.lt_trans (Nat.lt_of_lt_of_le hkk1 (z_Ok.n12 hOk0)) (by decide : 6 < 2 ^ 31))]; exact zr_3 (Nat.lt_of_lt_of_le hkk1 (z_Ok.n12 hOk0))) dX3_turnAll_21 ?_
        refine z_giN (D := (dC, dI)) (cl := vwCl) (C := RX7) (T := TX7) (N := 9) (ci := 7) (k := 1) hx hb hts hinX7 hown hK hH (zk_v (Nat.lt_of_lt_of_le hkk1 (z_Ok.n12 hOk0))) (by decide) rfl (by decide) rfl (hN (.fieldLinkNest RX3 139 "Steamfield$Well" "isInjector" "Z" "Steamfield") (by decide +kernel)) (fun _ h9 => h9) dX3_turnAll_22 ?_
        refine lv_topi (fun x8 ex8 => ?_)
        have J11 : ∀ x10 : Int32, x10 = (if x8 = 0 then a0 else a1) → ∀ ls : Array Slot, lv_has ls 4 [(0, .ref (ad 0)), (1, .int a0), (2, .int a1), (3, .int i2)] → W p l e (headSpec wsX3_turnAll ({ frames := 0, cells := 0, slots := 0, locals := 0 })).room s m ([.ref (ad 0), .int a0, .int a1] : List Value).toArray below meth c H locs 0 0 (MQ below (z_Qv (fun H => zW dC dI ca ad (fX3_turnAll M a0 a1) H ∧ z_Fx M (fX3_turnAll M a0 a1)) (z_A zd ad)) ([.ref (ad 0), .int a0, .int a1] : List Value).toArray s 0 0 (z_A zd ad)) (F0 m 33 ls [.int x10, .ref (ad (60 + k1))]) := by
          intro x10 ex10 ls hl
          refine zp_iN (D := (dC, dI)) (cl := vwCl) (C := RX7) (T := TX7) (N := 9) (ci := 7) (k := 2) (ty := .int) hx hb hts hinX7 tyX7 tyX7_ok nmX7 hown hK hH hI hS (fun _ h => h) (zk_v (Nat.lt_of_lt_of_le hkk1 (z_Ok.n12 hOk0))) (by decide) rfl (by decide) rfl (hN (.fieldLinkNest RX3 143 "Steamfield$Well" "valve" "I" "Steamfield") (by decide +kernel)) (fun _ h9 => h9) rfl (by decide +kernel) rfl rfl dX3_turnAll_33 (fun H locs hH oq hS => ?_)
          obtain ⟨M12, hM12⟩ : ∃ z : zM, z = zu M4 (60 + k1) 2 x10 := ⟨_, rfl⟩
          rw [← hM12] at hH
          have hFx : z_Fx M M12 := hFx.tr (by rw [hM12]; exact (z_Fx.u (zk_v (Nat.lt_of_lt_of_le hkk1 (z_Ok.n12 hOk0))) rfl))
          have hOk : z_Ok M12 := hOk0.fx hFx
          obtain ⟨x13, ex13⟩ : ∃ z : Int32, z = i2 + 1 := ⟨_, rfl⟩
          refine lv_iinc (v := x13) (lv' := [(3, .int x13), (0, .ref (ad 0)), (1, .int a0), (2, .int a1)]) hx hb dX3_turnAll_36 hl (k := 3) rfl (by rw [ex13]; rfl) (by decide) rfl (fun ls hl => ?_)
          refine lv_goto (tgt := 2) hx hb dX3_turnAll_39 (by decide) ?_
          exact ih (k1 + 1) hkk1 (by omega) M12 (by show M12 = bX3_turnAll_2 a0 a1 k1 (zit (bX3_turnAll_2 a0 a1) k1 M); rw [← esk1]; subst ex13; subst hM12; subst ex10; subst ex8; subst ex6; rfl) x13 (z_nx ei2 ex13) ls (lv_sub hl [1, 2, 3, 0] rfl) _ _ hH hFx hS
        refine lv_if_eq (tgt := 32) hx hb dX3_turnAll_25 (by decide) (fun c9 => ?_) (fun c9 => ?_)
        · refine lv_iload_n hx hb dX3_turnAll_32 rfl (lv_at hl 1 rfl) ?_
          exact J11 _ (by exact (if_pos c9).symm) ls (lv_sub hl [0, 1, 2, 3] rfl)
        · refine lv_iload_n hx hb dX3_turnAll_28 rfl (lv_at hl 2 rfl) ?_
          refine lv_goto (tgt := 33) hx hb dX3_turnAll_29 (by decide) ?_
          exact J11 _ (by exact (if_neg c9).symm) ls (lv_sub hl [0, 1, 2, 3] rfl)
  exact L5 (zc12 M + 1) 0 (Nat.zero_le _) (by omega) M rfl _ rfl ls (lv_sub hl [1, 2, 3, 0] rfl) s.heap [] hH hFx hS

def fX3_shareOut (M : zM)  : zM :=
  let x1 := M 6 2
  let x2 := 3 * x1
  let x3 := M 6 5
  let x4 := x3 / 100
  let x5 := x2 + x4
  let x6 := rX3_shareOf M 0
  let x7 := rX3_shareOf M 1
  let x8 := x6 + x7
  let x10 := if x8 ≤ 0 then 0 else (let x10 := x5 * x6; let x11 := x10 / x8; x11)
  let x12 := M 8 0
  let x13 := x12 + x10
  let M14 := zu M 8 0 x13
  let x15 := M14 8 1
  let x16 := x5 - x10
  let x17 := x15 + x16
  let M18 := zu M14 8 1 x17
  M18
set_option maxHeartbeats 4000000 in
set_option maxRecDepth 100000 in
theorem m_X3_shareOut (l : Launch) (dC : Nat → ClassId) (dI : Nat → Nat → Nat) (ca : Nat → ClassId) (ad : Nat → Nat) (hI : z_I zd ad) (M : zM) (hOk0 : z_Ok M) : Met l yX3_shareOut wsX3_shareOut ({ frames := 1, cells := 0, slots := 0, locals := 23 }) (z_Pc (dC, dI) vwCl (zt ca) zw_nest [.ref (ad 0)] (fun H => zW dC dI ca ad M H)) (z_Qv (fun H => zW dC dI ca ad (fX3_shareOut M ) H ∧ z_Fx M (fX3_shareOut M )) (z_A zd ad)) 0 0 (z_A zd ad) := by
  refine Met.ofW (cc := cX3_shareOut) (maxL := 5) (ret := none) (by decide) rfl ?_
  intro p e s m args below meth c s₁ B hml hv
  obtain ⟨rfl, hH, hK, hN⟩ := hv
  have hx := B.exec
  have hb := B.bytes
  have hr := B.returns
  have hts := atoms_spec (ws := wsX3_shareOut) B.pre
  have hown : s.vm.findClass RX3 = some m.cls := findClass_of_methodNamed B.named
  have hlocks := B.notSynchronized
  have hS : va_S (z_A zd ad) s.heap s.heap [] := va_S.rf
  have hOk := hOk0
  have hFx : z_Fx M M := z_Fx.rf
  have hH : z_H (dC, dI) vwCl zf ca zd ad M s.heap := hH
  have hinX3 : ∀ w ∈ u_ws RX3 TX3 15, w ∈ wsX3_shareOut := by decide +kernel
  have hinX4 : ∀ w ∈ u_ws RX4 TX4 6, w ∈ wsX3_shareOut := by decide +kernel
  have hl := lv_entry ([.ref (ad 0)]) (n := 5) (Nat.le_of_ble_eq_true rfl)
  rw [lg_entry_eq]
  generalize (lg_sl ([.ref (ad 0)]) ++ List.replicate (5 - (lg_sl ([.ref (ad 0)])).length) Slot.unset).toArray = ls at hl ⊢
  have hl : lv_has ls 5 [(0, .ref (ad 0))] := hl
  refine lv_iconst (v := 3) hx hb dX3_shareOut_0 (by decide) ?_
  refine lv_aload_n hx hb dX3_shareOut_1 rfl (lv_at hl 0 rfl) ?_
  refine z_gr (D := (dC, dI)) (cl := vwCl) (C := RX3) (T := TX3) (N := 15) (ci := 3) (k := 5) hx hb hts hinX3 hown hK hH zk_0 (by decide) rfl (by decide) rfl (zr_0 (k := 5) (by decide)) (hts (.fieldLink RX3 45 "Steamfield$Land" "plant" "LSteamfield$Plant;") (by decide +kernel)) (fun _ h9 => h9) dX3_shareOut_2 ?_
  refine z_giN (D := (dC, dI)) (cl := vwCl) (C := RX4) (T := TX4) (N := 6) (ci := 4) (k := 2) hx hb hts hinX4 hown hK hH zk_6 (by decide) rfl (by decide) rfl (hN (.fieldLinkNest RX3 245 "Steamfield$Plant" "power" "I" "Steamfield") (by decide +kernel)) (fun _ h9 => h9) dX3_shareOut_5 ?_
  refine lv_topi (fun x1 ex1 => ?_)
  refine lv_imul hx hb dX3_shareOut_8 ?_
  refine lv_topi (fun x2 ex2 => ?_)
  refine lv_aload_n hx hb dX3_shareOut_9 rfl (lv_at hl 0 rfl) ?_
  refine z_gr (D := (dC, dI)) (cl := vwCl) (C := RX3) (T := TX3) (N := 15) (ci := 3) (k := 5) hx hb hts hinX3 hown hK hH zk_0 (by decide) rfl (by decide) rfl (zr_0 (k := 5) (by decide)) (hts (.fieldLink RX3 45 "Steamfield$Land" "plant" "LSteamfield$Plant;") (by decide +kernel)) (fun _ h9 => h9) dX3_shareOut_10 ?_
  refine z_giN (D := (dC, dI)) (cl := vwCl) (C := RX4) (T := TX4) (N := 6) (ci := 4) (k := 5) hx hb hts hinX4 hown hK hH zk_6 (by decide) rfl (by decide) rfl (hN (.fieldLinkNest RX3 260 "Steamfield$Plant" "townHeat" "I" "Steamfield") (by decide +kernel)) (fun _ h9 => h9) dX3_shareOut_13 ?_
  refine lv_topi (fun x3 ex3 => ?_)
  refine lv_bipush (v := 100) hx hb dX3_shareOut_16 (by decide) ?_
  refine lv_idiv hx hb dX3_shareOut_18 (by decide) ?_
  refine lv_topi (fun x4 ex4 => ?_)
  refine lv_iadd hx hb dX3_shareOut_19 ?_
  refine lv_topi (fun x5 ex5 => ?_)
  refine lv_istore_n (lv' := [(1, .int x5), (0, .ref (ad 0))]) hx hb dX3_shareOut_20 rfl hl (by decide) rfl (fun ls hl => ?_)
  refine lv_aload_n hx hb dX3_shareOut_21 rfl (lv_at hl 1 rfl) ?_
  refine lv_iconst (v := 0) hx hb dX3_shareOut_22 (by decide) ?_
  refine z_cVi (D := (dC, dI)) (cl := vwCl) (tys := zt ca) (nw := zw_nest) (C := RX3) (As := [.int 0]) (rest := []) ⟨hx, hb, hml, hown, hts⟩ (m_X3_shareOf l dC dI ca ad hI M 0 hOk) (cwV 1 hts gX3_shareOut_X3_shareOf rfl rfl rfl (by decide +kernel) ⟨Nat.le_of_ble_eq_true rfl, Nat.le_of_ble_eq_true rfl⟩) (z_recv (ci := 3) (i := 0) hK hH zk_0 (by decide) rfl) hH hK hN zw_nest_ok rfl hl.1 rfl (Nat.le_of_ble_eq_true rfl) dX3_shareOut_23 ⟨Nat.le_refl _, Nat.le_refl _⟩ hS (fun _ h => h) (fun H locs hB1 oq1 hz1 hS => ?_)
  have hH := hB1
  refine lv_topi (fun x6 ex6 => ?_)
  refine lv_istore_n (lv' := [(2, .int x6), (1, .int x5), (0, .ref (ad 0))]) hx hb dX3_shareOut_26 rfl hl (by decide) rfl (fun ls hl => ?_)
  refine lv_iload_n hx hb dX3_shareOut_27 rfl (lv_at hl 0 rfl) ?_
  refine lv_aload_n hx hb dX3_shareOut_28 rfl (lv_at hl 2 rfl) ?_
  refine lv_iconst (v := 1) hx hb dX3_shareOut_29 (by decide) ?_
  refine z_cVi (D := (dC, dI)) (cl := vwCl) (tys := zt ca) (nw := zw_nest) (C := RX3) (As := [.int 1]) (rest := [.int x6]) ⟨hx, hb, hml, hown, hts⟩ (m_X3_shareOf l dC dI ca ad hI M 1 hOk) (cwV 1 hts gX3_shareOut_X3_shareOf rfl rfl rfl (by decide +kernel) ⟨Nat.le_of_ble_eq_true rfl, Nat.le_of_ble_eq_true rfl⟩) (z_recv (ci := 3) (i := 0) hK hH zk_0 (by decide) rfl) hH hK hN zw_nest_ok rfl hl.1 rfl (Nat.le_of_ble_eq_true rfl) dX3_shareOut_30 ⟨Nat.le_refl _, Nat.le_refl _⟩ hS (fun _ h => h) (fun H locs hB1 oq1 hz1 hS => ?_)
  have hH := hB1
  refine lv_topi (fun x7 ex7 => ?_)
  refine lv_iadd hx hb dX3_shareOut_33 ?_
  refine lv_topi (fun x8 ex8 => ?_)
  refine lv_istore_n (lv' := [(3, .int x8), (2, .int x6), (1, .int x5), (0, .ref (ad 0))]) hx hb dX3_shareOut_34 rfl hl (by decide) rfl (fun ls hl => ?_)
  refine lv_iload_n hx hb dX3_shareOut_35 rfl (lv_at hl 0 rfl) ?_
  have J11 : ∀ x10 : Int32, x10 = (if x8 ≤ 0 then 0 else (let x10 := x5 * x6; let x11 := x10 / x8; x11)) → ∀ ls : Array Slot, lv_has ls 5 [(0, .ref (ad 0)), (1, .int x5), (2, .int x6), (3, .int x8)] → W p l e (headSpec wsX3_shareOut ({ frames := 1, cells := 0, slots := 0, locals := 23 })).room s m ([.ref (ad 0)] : List Value).toArray below meth c H locs 0 0 (MQ below (z_Qv (fun H => zW dC dI ca ad (fX3_shareOut M ) H ∧ z_Fx M (fX3_shareOut M )) (z_A zd ad)) ([.ref (ad 0)] : List Value).toArray s 0 0 (z_A zd ad)) (F0 m 48 ls [.int x10]) := by
    intro x10 ex10 ls hl
    refine lv_istore (lv' := [(4, .int x10), (0, .ref (ad 0)), (1, .int x5), (2, .int x6), (3, .int x8)]) hx hb dX3_shareOut_48 hl (by decide) rfl (fun ls hl => ?_)
    refine lv_aload_n hx hb dX3_shareOut_50 rfl (lv_at hl 1 rfl) ?_
    refine z_gr (D := (dC, dI)) (cl := vwCl) (C := RX3) (T := TX3) (N := 15) (ci := 3) (k := 7) hx hb hts hinX3 hown hK hH zk_0 (by decide) rfl (by decide) rfl (zr_0 (k := 7) (by decide)) (hts (.fieldLink RX3 56 "Steamfield$Land" "coins" "[I") (by decide +kernel)) (fun _ h9 => h9) dX3_shareOut_51 ?_
    refine lv_iconst (v := 0) hx hb dX3_shareOut_54 (by decide) ?_
    refine lv_dup2_11 hx hb dX3_shareOut_55 rfl rfl ?_
    refine z_al (t0 := 0) (D := (dC, dI)) (cl := vwCl) (tys := zt ca) hx hb hK hH zk_8 rfl (show vp_in 0 2 from (zx (n := 0) rfl (by decide) (by decide))) dX3_shareOut_56 ?_
    rw [zx_n (x := 0) (n := 0) rfl (by decide)]
    refine lv_topi (fun x12 ex12 => ?_)
    refine lv_iload hx hb dX3_shareOut_57 (lv_at hl 0 rfl) ?_
    refine lv_iadd hx hb dX3_shareOut_59 ?_
    refine lv_topi (fun x13 ex13 => ?_)
    refine zp_as (t0 := 0) (D := (dC, dI)) (cl := vwCl) (tys := zt ca) hx hb hK hH hI hS (fun _ h => h) zk_8 rfl (show vp_in 0 2 from (zx (n := 0) rfl (by decide) (by decide))) dX3_shareOut_60 (fun H locs hH oq hS => ?_)
    rw [zx_n (x := 0) (n := 0) rfl (by decide)] at hH
    obtain ⟨M14, hM14⟩ : ∃ z : zM, z = zu M 8 0 x13 := ⟨_, rfl⟩
    rw [← hM14] at hH
    have hFx : z_Fx M M14 := hFx.tr (by rw [hM14]; exact (z_Fx.u zk_8 rfl))
    have hOk : z_Ok M14 := hOk0.fx hFx
    refine lv_aload_n hx hb dX3_shareOut_61 rfl (lv_at hl 1 rfl) ?_
    refine z_gr (D := (dC, dI)) (cl := vwCl) (C := RX3) (T := TX3) (N := 15) (ci := 3) (k := 7) hx hb hts hinX3 hown hK hH zk_0 (by decide) rfl (by decide) rfl (zr_0 (k := 7) (by decide)) (hts (.fieldLink RX3 56 "Steamfield$Land" "coins" "[I") (by decide +kernel)) (fun _ h9 => h9) dX3_shareOut_62 ?_
    refine lv_iconst (v := 1) hx hb dX3_shareOut_65 (by decide) ?_
    refine lv_dup2_11 hx hb dX3_shareOut_66 rfl rfl ?_
    refine z_al (t0 := 0) (D := (dC, dI)) (cl := vwCl) (tys := zt ca) hx hb hK hH zk_8 rfl (show vp_in 1 2 from (zx (n := 1) rfl (by decide) (by decide))) dX3_shareOut_67 ?_
    rw [zx_n (x := 1) (n := 1) rfl (by decide)]
    refine lv_topi (fun x15 ex15 => ?_)
    refine lv_iload_n hx hb dX3_shareOut_68 rfl (lv_at hl 2 rfl) ?_
    refine lv_iload hx hb dX3_shareOut_69 (lv_at hl 0 rfl) ?_
    refine lv_isub hx hb dX3_shareOut_71 ?_
    refine lv_topi (fun x16 ex16 => ?_)
    refine lv_iadd hx hb dX3_shareOut_72 ?_
    refine lv_topi (fun x17 ex17 => ?_)
    refine zp_as (t0 := 0) (D := (dC, dI)) (cl := vwCl) (tys := zt ca) hx hb hK hH hI hS (fun _ h => h) zk_8 rfl (show vp_in 1 2 from (zx (n := 1) rfl (by decide) (by decide))) dX3_shareOut_73 (fun H locs hH oq hS => ?_)
    rw [zx_n (x := 1) (n := 1) rfl (by decide)] at hH
    obtain ⟨M18, hM18⟩ : ∃ z : zM, z = zu M14 8 1 x17 := ⟨_, rfl⟩
    rw [← hM18] at hH
    have hFx : z_Fx M M18 := hFx.tr (by rw [hM18]; exact (z_Fx.u zk_8 rfl))
    have hOk : z_Ok M18 := hOk0.fx hFx
    have hF : zW dC dI ca ad (fX3_shareOut M ) H := by
      have e9 : M18 = fX3_shareOut M  := by subst hM18; subst ex17; subst ex16; subst ex15; subst hM14; subst ex13; subst ex12; subst ex10; subst ex8; subst ex7; subst ex6; subst ex5; subst ex4; subst ex3; subst ex2; subst ex1; rfl
      rw [← e9]; exact hH
    have hFF : z_Fx M (fX3_shareOut M ) := by
      have e9 : M18 = fX3_shareOut M  := by subst hM18; subst ex17; subst ex16; subst ex15; subst hM14; subst ex13; subst ex12; subst ex10; subst ex8; subst ex7; subst ex6; subst ex5; subst ex4; subst ex3; subst ex2; subst ex1; rfl
      rw [← e9]; exact hFx
    exact W.vret hx hb hr (fun t ht hW => ⟨⟨(), rfl, trivial, z_to (B := fun H => zW dC dI ca ad (fX3_shareOut M ) H ∧ z_Fx M (fX3_shareOut M )) ht ⟨hF, hFF⟩⟩, hS.F ht⟩) hS.2.2 dX3_shareOut_74
  refine lv_if_le (tgt := 47) hx hb dX3_shareOut_36 (by decide) (fun c9 => ?_) (fun c9 => ?_)
  · refine lv_iconst (v := 0) hx hb dX3_shareOut_47 (by decide) ?_
    exact J11 _ (by exact (if_pos c9).symm) ls (lv_sub hl [3, 2, 1, 0] rfl)
  · refine lv_iload_n hx hb dX3_shareOut_39 rfl (lv_at hl 2 rfl) ?_
    refine lv_iload_n hx hb dX3_shareOut_40 rfl (lv_at hl 1 rfl) ?_
    refine lv_imul hx hb dX3_shareOut_41 ?_
    refine lv_topi (fun x10 ex10 => ?_)
    refine lv_iload_n hx hb dX3_shareOut_42 rfl (lv_at hl 0 rfl) ?_
    refine lv_idiv hx hb dX3_shareOut_43 (z_nz c9) ?_
    refine lv_topi (fun x11 ex11 => ?_)
    refine lv_goto (tgt := 48) hx hb dX3_shareOut_44 (by decide) ?_
    exact J11 _ (by subst ex11; subst ex10; exact (if_neg c9).symm) ls (lv_sub hl [3, 2, 1, 0] rfl)

def bX3_payForLacks_2  (k1 : Nat) (st : zM) : zM :=
  let M4 := st
  let x6 := M4 0 13
  let x8 := M4 (70 + k1) 0
  let x9 := M4 (20 + x8.toNatClampNeg) 2
  let x10 := M4 8 x9.toNatClampNeg
  let x11 := M4 (70 + k1) 4
  let x12 := 2 * x11
  let x13 := x10 - x12
  let M14 := zu M4 8 x9.toNatClampNeg x13
  let x15 := 1 - x9
  let x16 := M14 8 x15.toNatClampNeg
  let x17 := M14 (70 + k1) 4
  let x18 := x16 - x17
  let M19 := zu M14 8 x15.toNatClampNeg x18
  M19
def fX3_payForLacks (M : zM)  : zM :=
  let M4 := (zit (bX3_payForLacks_2) (zc13 M) M)
  M4
set_option maxHeartbeats 4000000 in
set_option maxRecDepth 100000 in
theorem m_X3_payForLacks (l : Launch) (dC : Nat → ClassId) (dI : Nat → Nat → Nat) (ca : Nat → ClassId) (ad : Nat → Nat) (hI : z_I zd ad) (M : zM) (hOk0 : z_Ok M) : Met l yX3_payForLacks wsX3_payForLacks ({ frames := 0, cells := 0, slots := 0, locals := 0 }) (z_Pc (dC, dI) vwCl (zt ca) zw_nest [.ref (ad 0)] (fun H => zW dC dI ca ad M H)) (z_Qv (fun H => zW dC dI ca ad (fX3_payForLacks M ) H ∧ z_Fx M (fX3_payForLacks M )) (z_A zd ad)) 0 0 (z_A zd ad) := by
  refine Met.ofW (cc := cX3_payForLacks) (maxL := 4) (ret := none) (by decide) rfl ?_
  intro p e s m args below meth c s₁ B hml hv
  obtain ⟨rfl, hH, hK, hN⟩ := hv
  have hx := B.exec
  have hb := B.bytes
  have hr := B.returns
  have hts := atoms_spec (ws := wsX3_payForLacks) B.pre
  have hown : s.vm.findClass RX3 = some m.cls := findClass_of_methodNamed B.named
  have hlocks := B.notSynchronized
  have hS : va_S (z_A zd ad) s.heap s.heap [] := va_S.rf
  have hOk := hOk0
  have hFx : z_Fx M M := z_Fx.rf
  have hH : z_H (dC, dI) vwCl zf ca zd ad M s.heap := hH
  have hinX0 : ∀ w ∈ u_ws RX0 TX0 3, w ∈ wsX3_payForLacks := by decide +kernel
  have hinX3 : ∀ w ∈ u_ws RX3 TX3 15, w ∈ wsX3_payForLacks := by decide +kernel
  have hinX5 : ∀ w ∈ u_ws RX5 TX5 7, w ∈ wsX3_payForLacks := by decide +kernel
  have hl := lv_entry ([.ref (ad 0)]) (n := 4) (Nat.le_of_ble_eq_true rfl)
  rw [lg_entry_eq]
  generalize (lg_sl ([.ref (ad 0)]) ++ List.replicate (4 - (lg_sl ([.ref (ad 0)])).length) Slot.unset).toArray = ls at hl ⊢
  have hl : lv_has ls 4 [(0, .ref (ad 0))] := hl
  refine lv_iconst (v := 0) hx hb dX3_payForLacks_0 (by decide) ?_
  refine lv_istore_n (lv' := [(1, .int 0), (0, .ref (ad 0))]) hx hb dX3_payForLacks_1 rfl hl (by decide) rfl (fun ls hl => ?_)
  have L5 : ∀ (d3 k1 : Nat), k1 ≤ zc13 M → zc13 M - k1 < d3 → ∀ M4 : zM, M4 = zit (bX3_payForLacks_2) k1 M → ∀ i2 : Int32, i2 = nI k1 → ∀ ls : Array Slot, lv_has ls 4 [(0, .ref (ad 0)), (1, .int i2)] → ∀ (H : Heap) (locs : List Loc), z_H (dC, dI) vwCl zf ca zd ad M4 H → z_Fx M M4 → va_S (z_A zd ad) s.heap H locs → W p l e (headSpec wsX3_payForLacks ({ frames := 0, cells := 0, slots := 0, locals := 0 })).room s m ([.ref (ad 0)] : List Value).toArray below meth c H locs 0 0 (MQ below (z_Qv (fun H => zW dC dI ca ad (fX3_payForLacks M ) H ∧ z_Fx M (fX3_payForLacks M )) (z_A zd ad)) ([.ref (ad 0)] : List Value).toArray s 0 0 (z_A zd ad)) (F0 m 2 ls []) := by
    intro d3
    induction d3 with
    | zero => intro k1 hk1 hd; exact absurd hd (by omega)
    | succ d3 ih =>
      intro k1 hk1 hd M4 esk1 i2 ei2 ls hl H locs hH hFx hS
      have hOk : z_Ok M4 := hOk0.fx hFx
      refine lv_iload_n hx hb dX3_payForLacks_2 rfl (lv_at hl 1 rfl) ?_
      refine lv_aload_n hx hb dX3_payForLacks_3 rfl (lv_at hl 0 rfl) ?_
      refine z_gi (D := (dC, dI)) (cl := vwCl) (C := RX3) (T := TX3) (N := 15) (ci := 3) (k := 13) hx hb hts hinX3 hown hK hH zk_0 (by decide) rfl (by decide) rfl (hts (.fieldLink RX3 108 "Steamfield$Land" "springCount" "I") (by decide +kernel)) (fun _ h9 => h9) dX3_payForLacks_4 ?_
      refine lv_topi (fun x6 ex6 => ?_)
      have hx6 : x6 = nI (zc13 M) := by rw [ex6, hFx.c13]; exact z_Ok.c13 hOk0
      refine lv_icmp_ge (tgt := 66) hx hb dX3_payForLacks_7 (by decide) (fun c7 => ?_) (fun c7 => ?_)
      · have hkk1 : k1 = zc13 M := z_ge hx6 ei2 hk1 (Nat.lt_of_le_of_lt (z_Ok.n13 hOk0) (by decide)) c7
        have qM4 : M4 = (zit (bX3_payForLacks_2) (zc13 M) M) := by rw [← hkk1, ← esk1]
        have hF : zW dC dI ca ad (fX3_payForLacks M ) H := by
          have e9 : M4 = fX3_payForLacks M  := by subst qM4; rfl
          rw [← e9]; exact hH
        have hFF : z_Fx M (fX3_payForLacks M ) := by
          have e9 : M4 = fX3_payForLacks M  := by subst qM4; rfl
          rw [← e9]; exact hFx
        exact W.vret hx hb hr (fun t ht hW => ⟨⟨(), rfl, trivial, z_to (B := fun H => zW dC dI ca ad (fX3_payForLacks M ) H ∧ z_Fx M (fX3_payForLacks M )) ht ⟨hF, hFF⟩⟩, hS.F ht⟩) hS.2.2 dX3_payForLacks_66
      · have hkk1 : k1 < zc13 M := z_lt hx6 ei2 hk1 (Nat.lt_of_le_of_lt (z_Ok.n13 hOk0) (by decide)) c7
        refine lv_aload_n hx hb dX3_payForLacks_10 rfl (lv_at hl 0 rfl) ?_
        refine z_gr (D := (dC, dI)) (cl := vwCl) (C := RX3) (T := TX3) (N := 15) (ci := 3) (k := 3) hx hb hts hinX3 hown hK hH zk_0 (by decide) rfl (by decide) rfl (zr_0 (k := 3) (by decide)) (hts (.fieldLink RX3 31 "Steamfield$Land" "springs" "[LSteamfield$Spring;") (by decide +kernel)) (fun _ h9 => h9) dX3_payForLacks_11 ?_
        refine lv_iload_n hx hb dX3_payForLacks_14 rfl (lv_at hl 1 rfl) ?_
        refine z_aq (t0 := 4) (D := (dC, dI)) (cl := vwCl) (tys := zt ca) hx hb hK hH zk_4 (by decide) (by decide) rfl (show vp_in i2 3 from (zx ei2 (Nat.lt_of_lt_of_le hkk1 (z_Ok.n13 hOk0)) (by decide))) (show zr 4 (i2 : Int32).toNatClampNeg = some (70 + k1) from by rw [zx_n ei2 (Nat.lt_trans (Nat.lt_of_lt_of_le hkk1 (z_Ok.n13 hOk0)) (by decide : 3 < 2 ^ 31))]; exact zr_4 (Nat.lt_of_lt_of_le hkk1 (z_Ok.n13 hOk0))) dX3_payForLacks_15 ?_
        refine lv_astore_n (lv' := [(2, .ref (ad (70 + k1))), (0, .ref (ad 0)), (1, .int i2)]) hx hb dX3_payForLacks_16 rfl hl (by decide) rfl (fun ls hl => ?_)
        refine lv_aload_n hx hb dX3_payForLacks_17 rfl (lv_at hl 1 rfl) ?_
        refine z_gr (D := (dC, dI)) (cl := vwCl) (C := RX3) (T := TX3) (N := 15) (ci := 3) (k := 0) hx hb hts hinX3 hown hK hH zk_0 (by decide) rfl (by decide) rfl (zr_0 (k := 0) (by decide)) (hts (.fieldLink RX3 11 "Steamfield$Land" "blocks" "[LSteamfield$Block;") (by decide +kernel)) (fun _ h9 => h9) dX3_payForLacks_18 ?_
        refine lv_aload_n hx hb dX3_payForLacks_21 rfl (lv_at hl 0 rfl) ?_
        refine z_giN (D := (dC, dI)) (cl := vwCl) (C := RX5) (T := TX5) (N := 7) (ci := 5) (k := 0) hx hb hts hinX5 hown hK hH (zk_s (Nat.lt_of_lt_of_le hkk1 (z_Ok.n13 hOk0))) (by decide) rfl (by decide) rfl (hN (.fieldLinkNest RX3 275 "Steamfield$Spring" "block" "I" "Steamfield") (by decide +kernel)) (fun _ h9 => h9) dX3_payForLacks_22 ?_
        refine lv_topi (fun x8 ex8 => ?_)
        have hx8 : z_ix x8 8 := by rw [ex8]; exact z_Ok.sblock hOk (Nat.lt_of_lt_of_le hkk1 (z_Ok.n13 hOk0))
        refine z_aq (t0 := 1) (D := (dC, dI)) (cl := vwCl) (tys := zt ca) hx hb hK hH zk_1 (by decide) (by decide) rfl (show vp_in x8 8 from (z_ix.in hx8)) (show zr 1 (x8 : Int32).toNatClampNeg = some (20 + x8.toNatClampNeg) from zr_1 (z_ix.lt hx8)) dX3_payForLacks_25 ?_
        refine z_giN (D := (dC, dI)) (cl := vwCl) (C := RX0) (T := TX0) (N := 3) (ci := 0) (k := 2) hx hb hts hinX0 hown hK hH (zk_b (z_ix.lt hx8)) (by decide) rfl (by decide) rfl (hN (.fieldLinkNest RX3 114 "Steamfield$Block" "owner" "I" "Steamfield") (by decide +kernel)) (fun _ h9 => h9) dX3_payForLacks_26 ?_
        refine lv_topi (fun x9 ex9 => ?_)
        have hx9 : z_ix x9 2 := by rw [ex9]; exact z_Ok.owner hOk (z_ix.lt hx8)
        refine lv_istore_n (lv' := [(3, .int x9), (2, .ref (ad (70 + k1))), (0, .ref (ad 0)), (1, .int i2)]) hx hb dX3_payForLacks_29 rfl hl (by decide) rfl (fun ls hl => ?_)
        refine lv_aload_n hx hb dX3_payForLacks_30 rfl (lv_at hl 2 rfl) ?_
        refine z_gr (D := (dC, dI)) (cl := vwCl) (C := RX3) (T := TX3) (N := 15) (ci := 3) (k := 7) hx hb hts hinX3 hown hK hH zk_0 (by decide) rfl (by decide) rfl (zr_0 (k := 7) (by decide)) (hts (.fieldLink RX3 56 "Steamfield$Land" "coins" "[I") (by decide +kernel)) (fun _ h9 => h9) dX3_payForLacks_31 ?_
        refine lv_iload_n hx hb dX3_payForLacks_34 rfl (lv_at hl 0 rfl) ?_
        refine lv_dup2_11 hx hb dX3_payForLacks_35 rfl rfl ?_
        refine z_al (t0 := 0) (D := (dC, dI)) (cl := vwCl) (tys := zt ca) hx hb hK hH zk_8 rfl (show vp_in x9 2 from (z_ix.in hx9)) dX3_payForLacks_36 ?_
        refine lv_topi (fun x10 ex10 => ?_)
        refine lv_iconst (v := 2) hx hb dX3_payForLacks_37 (by decide) ?_
        refine lv_aload_n hx hb dX3_payForLacks_38 rfl (lv_at hl 1 rfl) ?_
        refine z_giN (D := (dC, dI)) (cl := vwCl) (C := RX5) (T := TX5) (N := 7) (ci := 5) (k := 4) hx hb hts hinX5 hown hK hH (zk_s (Nat.lt_of_lt_of_le hkk1 (z_Ok.n13 hOk0))) (by decide) rfl (by decide) rfl (hN (.fieldLinkNest RX3 283 "Steamfield$Spring" "lacked" "I" "Steamfield") (by decide +kernel)) (fun _ h9 => h9) dX3_payForLacks_39 ?_
        refine lv_topi (fun x11 ex11 => ?_)
        refine lv_imul hx hb dX3_payForLacks_42 ?_
        refine lv_topi (fun x12 ex12 => ?_)
        refine lv_isub hx hb dX3_payForLacks_43 ?_
        refine lv_topi (fun x13 ex13 => ?_)
        refine zp_as (t0 := 0) (D := (dC, dI)) (cl := vwCl) (tys := zt ca) hx hb hK hH hI hS (fun _ h => h) zk_8 rfl (show vp_in x9 2 from (z_ix.in hx9)) dX3_payForLacks_44 (fun H locs hH oq hS => ?_)
        obtain ⟨M14, hM14⟩ : ∃ z : zM, z = zu M4 8 x9.toNatClampNeg x13 := ⟨_, rfl⟩
        rw [← hM14] at hH
        have hFx : z_Fx M M14 := hFx.tr (by rw [hM14]; exact (z_Fx.u zk_8 rfl))
        have hOk : z_Ok M14 := hOk0.fx hFx
        refine lv_aload_n hx hb dX3_payForLacks_45 rfl (lv_at hl 2 rfl) ?_
        refine z_gr (D := (dC, dI)) (cl := vwCl) (C := RX3) (T := TX3) (N := 15) (ci := 3) (k := 7) hx hb hts hinX3 hown hK hH zk_0 (by decide) rfl (by decide) rfl (zr_0 (k := 7) (by decide)) (hts (.fieldLink RX3 56 "Steamfield$Land" "coins" "[I") (by decide +kernel)) (fun _ h9 => h9) dX3_payForLacks_46 ?_
        refine lv_iconst (v := 1) hx hb dX3_payForLacks_49 (by decide) ?_
        refine lv_iload_n hx hb dX3_payForLacks_50 rfl (lv_at hl 0 rfl) ?_
        refine lv_isub hx hb dX3_payForLacks_51 ?_
        refine lv_topi (fun x15 ex15 => ?_)
        have hx15 : z_ix x15 2 := by rw [ex15]; exact z_ix1 hx9
        refine lv_dup2_11 hx hb dX3_payForLacks_52 rfl rfl ?_
        refine z_al (t0 := 0) (D := (dC, dI)) (cl := vwCl) (tys := zt ca) hx hb hK hH zk_8 rfl (show vp_in x15 2 from (z_ix.in hx15)) dX3_payForLacks_53 ?_
        refine lv_topi (fun x16 ex16 => ?_)
        refine lv_aload_n hx hb dX3_payForLacks_54 rfl (lv_at hl 1 rfl) ?_
        refine z_giN (D := (dC, dI)) (cl := vwCl) (C := RX5) (T := TX5) (N := 7) (ci := 5) (k := 4) hx hb hts hinX5 hown hK hH (zk_s (Nat.lt_of_lt_of_le hkk1 (z_Ok.n13 hOk0))) (by decide) rfl (by decide) rfl (hN (.fieldLinkNest RX3 283 "Steamfield$Spring" "lacked" "I" "Steamfield") (by decide +kernel)) (fun _ h9 => h9) dX3_payForLacks_55 ?_
        refine lv_topi (fun x17 ex17 => ?_)
        refine lv_isub hx hb dX3_payForLacks_58 ?_
        refine lv_topi (fun x18 ex18 => ?_)
        refine zp_as (t0 := 0) (D := (dC, dI)) (cl := vwCl) (tys := zt ca) hx hb hK hH hI hS (fun _ h => h) zk_8 rfl (show vp_in x15 2 from (z_ix.in hx15)) dX3_payForLacks_59 (fun H locs hH oq hS => ?_)
        obtain ⟨M19, hM19⟩ : ∃ z : zM, z = zu M14 8 x15.toNatClampNeg x18 := ⟨_, rfl⟩
        rw [← hM19] at hH
        have hFx : z_Fx M M19 := hFx.tr (by rw [hM19]; exact (z_Fx.u zk_8 rfl))
        have hOk : z_Ok M19 := hOk0.fx hFx
        obtain ⟨x20, ex20⟩ : ∃ z : Int32, z = i2 + 1 := ⟨_, rfl⟩
        refine lv_iinc (v := x20) (lv' := [(1, .int x20), (3, .int x9), (2, .ref (ad (70 + k1))), (0, .ref (ad 0))]) hx hb dX3_payForLacks_60 hl (k := 3) rfl (by rw [ex20]; rfl) (by decide) rfl (fun ls hl => ?_)
        refine lv_goto (tgt := 2) hx hb dX3_payForLacks_63 (by decide) ?_
        exact ih (k1 + 1) hkk1 (by omega) M19 (by show M19 = bX3_payForLacks_2 k1 (zit (bX3_payForLacks_2) k1 M); rw [← esk1]; subst ex20; subst hM19; subst ex18; subst ex17; subst ex16; subst ex15; subst hM14; subst ex13; subst ex12; subst ex11; subst ex10; subst ex9; subst ex8; subst ex6; rfl) x20 (z_nx ei2 ex20) ls (lv_sub hl [3, 0] rfl) _ _ hH hFx hS
  exact L5 (zc13 M + 1) 0 (Nat.zero_le _) (by omega) M rfl _ rfl ls (lv_sub hl [1, 0] rfl) s.heap [] hH hFx hS

def bX3_step_17  (k5 : Nat) (st : zM) : zM :=
  let M8 := st
  let x10 := M8 0 11
  let M12 := fX3_flowThrough M8 k5
  M12
def bX3_step_45  (k14 : Nat) (st : zM × Int32) : zM × Int32 :=
  let M17 := st.1
  let a18 := st.2
  let x20 := M17 0 12
  let x22 := M17 (60 + k14) 1
  let x24 := if ¬ x22 = 0 then a18 else (let x24 := rX3_produce M17 k14; let M25 := fX3_produce M17 k14; let x26 := a18 + x24; x26)
  let M25 := if ¬ x22 = 0 then M17 else (let x24 := rX3_produce M17 k14; let M25 := fX3_produce M17 k14; let x26 := a18 + x24; M25)
  (M25, x24)
def bX3_step_102 (x4 : Int32) (k31 : Nat) (st : zM × Int32) : zM × Int32 :=
  let M34 := st.1
  let a35 := st.2
  let x37 := M34 0 12
  let x39 := M34 (60 + k31) 1
  let x41 := if x39 = 0 then a35 else (let x41 := rX3_inject M34 k31 x4; let M42 := fX3_inject M34 k31 x4; let x43 := a35 + x41; x43)
  let M42 := if x39 = 0 then M34 else (let x41 := rX3_inject M34 k31 x4; let M42 := fX3_inject M34 k31 x4; let x43 := a35 + x41; M42)
  (M42, x41)
def bX3_step_160  (k48 : Nat) (st : zM) : zM :=
  let M51 := st
  let x53 := M51 0 13
  let M55 := fX3_letFlow M51 k48
  M55
def fX3_step (M : zM)  : zM :=
  let x1 := M 0 14
  let x2 := x1 + 1
  let M3 := zu M 0 14 x2
  let x4 := rX3_light M3 
  let M8 := (zit (bX3_step_17) (zc11 M) M3)
  let M17 := (zit (bX3_step_45) (zc12 M) (M8, 0)).1
  let a18 := (zit (bX3_step_45) (zc12 M) (M8, 0)).2
  let M28 := fX3_drive M17 a18
  let M29 := fX3_warmTheTown M28 
  let M30 := fX3_spill M29 
  let M34 := (zit (bX3_step_102 x4) (zc12 M) (M30, 0)).1
  let a35 := (zit (bX3_step_102 x4) (zc12 M) (M30, 0)).2
  let x45 := M34 0 14
  let x46 := x45 &&& 3
  let M47 := zu M34 9 x46.toNatClampNeg a35
  let M51 := (zit (bX3_step_160) (zc13 M) M47)
  let M57 := fX3_shareOut M51 
  let M58 := fX3_payForLacks M57 
  M58
set_option maxHeartbeats 4000000 in
set_option maxRecDepth 100000 in
theorem m_X3_step (l : Launch) (dC : Nat → ClassId) (dI : Nat → Nat → Nat) (ca : Nat → ClassId) (ad : Nat → Nat) (hI : z_I zd ad) (M : zM) (hOk0 : z_Ok M) : Met l yX3_step wsX3_step ({ frames := 3, cells := 0, slots := 0, locals := 73 }) (z_Pc (dC, dI) vwCl (zt ca) zw_nest [.ref (ad 0)] (fun H => zW dC dI ca ad M H)) (z_Qv (fun H => zW dC dI ca ad (fX3_step M ) H ∧ z_Fx M (fX3_step M )) (z_A zd ad)) 0 0 (z_A zd ad) := by
  refine Met.ofW (cc := cX3_step) (maxL := 5) (ret := none) (by decide) rfl ?_
  intro p e s m args below meth c s₁ B hml hv
  obtain ⟨rfl, hH, hK, hN⟩ := hv
  have hx := B.exec
  have hb := B.bytes
  have hr := B.returns
  have hts := atoms_spec (ws := wsX3_step) B.pre
  have hown : s.vm.findClass RX3 = some m.cls := findClass_of_methodNamed B.named
  have hlocks := B.notSynchronized
  have hS : va_S (z_A zd ad) s.heap s.heap [] := va_S.rf
  have hOk := hOk0
  have hFx : z_Fx M M := z_Fx.rf
  have hH : z_H (dC, dI) vwCl zf ca zd ad M s.heap := hH
  have hinX3 : ∀ w ∈ u_ws RX3 TX3 15, w ∈ wsX3_step := by decide +kernel
  have hinX7 : ∀ w ∈ u_ws RX7 TX7 9, w ∈ wsX3_step := by decide +kernel
  have hl := lv_entry ([.ref (ad 0)]) (n := 5) (Nat.le_of_ble_eq_true rfl)
  rw [lg_entry_eq]
  generalize (lg_sl ([.ref (ad 0)]) ++ List.replicate (5 - (lg_sl ([.ref (ad 0)])).length) Slot.unset).toArray = ls at hl ⊢
  have hl : lv_has ls 5 [(0, .ref (ad 0))] := hl
  refine lv_aload_n hx hb dX3_step_0 rfl (lv_at hl 0 rfl) ?_
  refine lv_dup hx hb dX3_step_1 rfl ?_
  refine z_gi (D := (dC, dI)) (cl := vwCl) (C := RX3) (T := TX3) (N := 15) (ci := 3) (k := 14) hx hb hts hinX3 hown hK hH zk_0 (by decide) rfl (by decide) rfl (hts (.fieldLink RX3 111 "Steamfield$Land" "now" "I") (by decide +kernel)) (fun _ h9 => h9) dX3_step_2 ?_
  refine lv_topi (fun x1 ex1 => ?_)
  refine lv_iconst (v := 1) hx hb dX3_step_5 (by decide) ?_
  refine lv_iadd hx hb dX3_step_6 ?_
  refine lv_topi (fun x2 ex2 => ?_)
  refine zp_i (D := (dC, dI)) (cl := vwCl) (C := RX3) (T := TX3) (N := 15) (ci := 3) (k := 14) (ty := .int) hx hb hts hinX3 tyX3 tyX3_ok nmX3 hown hK hH hI hS (fun _ h => h) zk_0 (by decide) rfl (by decide) rfl (hts (.fieldLink RX3 111 "Steamfield$Land" "now" "I") (by decide +kernel)) (fun _ h9 => h9) rfl (by decide +kernel) rfl rfl dX3_step_7 (fun H locs hH oq hS => ?_)
  obtain ⟨M3, hM3⟩ : ∃ z : zM, z = zu M 0 14 x2 := ⟨_, rfl⟩
  rw [← hM3] at hH
  have hFx : z_Fx M M3 := hFx.tr (by rw [hM3]; exact (z_Fx.u zk_0 rfl))
  have hOk : z_Ok M3 := hOk0.fx hFx
  refine lv_aload_n hx hb dX3_step_10 rfl (lv_at hl 0 rfl) ?_
  refine z_cVi (D := (dC, dI)) (cl := vwCl) (tys := zt ca) (nw := zw_nest) (C := RX3) (As := []) (rest := []) ⟨hx, hb, hml, hown, hts⟩ (m_X3_light l dC dI ca ad hI M3 ) (cwV 0 hts gX3_step_X3_light rfl rfl rfl (by decide +kernel) ⟨Nat.le_of_ble_eq_true rfl, Nat.le_of_ble_eq_true rfl⟩) (z_recv (ci := 3) (i := 0) hK hH zk_0 (by decide) rfl) hH hK hN zw_nest_ok rfl hl.1 rfl (Nat.le_of_ble_eq_true rfl) dX3_step_11 ⟨Nat.le_refl _, Nat.le_refl _⟩ hS (fun _ h => h) (fun H locs hB1 oq1 hz1 hS => ?_)
  have hH := hB1
  refine lv_topi (fun x4 ex4 => ?_)
  refine lv_istore_n (lv' := [(1, .int x4), (0, .ref (ad 0))]) hx hb dX3_step_14 rfl hl (by decide) rfl (fun ls hl => ?_)
  refine lv_iconst (v := 0) hx hb dX3_step_15 (by decide) ?_
  refine lv_istore_n (lv' := [(2, .int 0), (1, .int x4), (0, .ref (ad 0))]) hx hb dX3_step_16 rfl hl (by decide) rfl (fun ls hl => ?_)
  have L9 : ∀ (d7 k5 : Nat), k5 ≤ zc11 M → zc11 M - k5 < d7 → ∀ M8 : zM, M8 = zit (bX3_step_17) k5 M3 → ∀ i6 : Int32, i6 = nI k5 → ∀ ls : Array Slot, lv_has ls 5 [(0, .ref (ad 0)), (1, .int x4), (2, .int i6)] → ∀ (H : Heap) (locs : List Loc), z_H (dC, dI) vwCl zf ca zd ad M8 H → z_Fx M M8 → va_S (z_A zd ad) s.heap H locs → W p l e (headSpec wsX3_step ({ frames := 3, cells := 0, slots := 0, locals := 73 })).room s m ([.ref (ad 0)] : List Value).toArray below meth c H locs 0 0 (MQ below (z_Qv (fun H => zW dC dI ca ad (fX3_step M ) H ∧ z_Fx M (fX3_step M )) (z_A zd ad)) ([.ref (ad 0)] : List Value).toArray s 0 0 (z_A zd ad)) (F0 m 17 ls []) := by
    intro d7
    induction d7 with
    | zero => intro k5 hk5 hd; exact absurd hd (by omega)
    | succ d7 ih =>
      intro k5 hk5 hd M8 esk5 i6 ei6 ls hl H locs hH hFx hS
      have hOk : z_Ok M8 := hOk0.fx hFx
      refine lv_iload_n hx hb dX3_step_17 rfl (lv_at hl 2 rfl) ?_
      refine lv_aload_n hx hb dX3_step_18 rfl (lv_at hl 0 rfl) ?_
      refine z_gi (D := (dC, dI)) (cl := vwCl) (C := RX3) (T := TX3) (N := 15) (ci := 3) (k := 11) hx hb hts hinX3 hown hK hH zk_0 (by decide) rfl (by decide) rfl (hts (.fieldLink RX3 102 "Steamfield$Land" "faceCount" "I") (by decide +kernel)) (fun _ h9 => h9) dX3_step_19 ?_
      refine lv_topi (fun x10 ex10 => ?_)
      have hx10 : x10 = nI (zc11 M) := by rw [ex10, hFx.c11]; exact z_Ok.c11 hOk0
      refine lv_icmp_ge (tgt := 41) hx hb dX3_step_22 (by decide) (fun c11 => ?_) (fun c11 => ?_)
      · have hkk5 : k5 = zc11 M := z_ge hx10 ei6 hk5 (Nat.lt_of_le_of_lt (z_Ok.n11 hOk0) (by decide)) c11
        have qM8 : M8 = (zit (bX3_step_17) (zc11 M) M3) := by rw [← hkk5, ← esk5]
        refine lv_iconst (v := 0) hx hb dX3_step_41 (by decide) ?_
        refine lv_istore_n (lv' := [(2, .int 0), (0, .ref (ad 0)), (1, .int x4)]) hx hb dX3_step_42 rfl hl (by decide) rfl (fun ls hl => ?_)
        refine lv_iconst (v := 0) hx hb dX3_step_43 (by decide) ?_
        refine lv_istore_n (lv' := [(3, .int 0), (2, .int 0), (0, .ref (ad 0)), (1, .int x4)]) hx hb dX3_step_44 rfl hl (by decide) rfl (fun ls hl => ?_)
        have L19 : ∀ (d16 k14 : Nat), k14 ≤ zc12 M → zc12 M - k14 < d16 → ∀ M17 : zM, ∀ a18 : Int32, (M17, a18) = zit (bX3_step_45) k14 (M8, 0) → ∀ i15 : Int32, i15 = nI k14 → ∀ ls : Array Slot, lv_has ls 5 [(0, .ref (ad 0)), (1, .int x4), (2, .int a18), (3, .int i15)] → ∀ (H : Heap) (locs : List Loc), z_H (dC, dI) vwCl zf ca zd ad M17 H → z_Fx M M17 → va_S (z_A zd ad) s.heap H locs → W p l e (headSpec wsX3_step ({ frames := 3, cells := 0, slots := 0, locals := 73 })).room s m ([.ref (ad 0)] : List Value).toArray below meth c H locs 0 0 (MQ below (z_Qv (fun H => zW dC dI ca ad (fX3_step M ) H ∧ z_Fx M (fX3_step M )) (z_A zd ad)) ([.ref (ad 0)] : List Value).toArray s 0 0 (z_A zd ad)) (F0 m 45 ls []) := by
          intro d16
          induction d16 with
          | zero => intro k14 hk14 hd; exact absurd hd (by omega)
          | succ d16 ih =>
            intro k14 hk14 hd M17 a18 esk14 i15 ei15 ls hl H locs hH hFx hS
            have hOk : z_Ok M17 := hOk0.fx hFx
            refine lv_iload_n hx hb dX3_step_45 rfl (lv_at hl 3 rfl) ?_
            refine lv_aload_n hx hb dX3_step_46 rfl (lv_at hl 0 rfl) ?_
            refine z_gi (D := (dC, dI)) (cl := vwCl) (C := RX3) (T := TX3) (N := 15) (ci := 3) (k := 12) hx hb hts hinX3 hown hK hH zk_0 (by decide) rfl (by decide) rfl (hts (.fieldLink RX3 105 "Steamfield$Land" "wellCount" "I") (by decide +kernel)) (fun _ h9 => h9) dX3_step_47 ?_
            refine lv_topi (fun x20 ex20 => ?_)
            have hx20 : x20 = nI (zc12 M) := by rw [ex20, hFx.c12]; exact z_Ok.c12 hOk0
            refine lv_icmp_ge (tgt := 84) hx hb dX3_step_50 (by decide) (fun c21 => ?_) (fun c21 => ?_)
            · have hkk14 : k14 = zc12 M := z_ge hx20 ei15 hk14 (Nat.lt_of_le_of_lt (z_Ok.n12 hOk0) (by decide)) c21
              have qM17 : M17 = (zit (bX3_step_45) (zc12 M) (M8, 0)).1 := by rw [← hkk14, ← esk14]
              have qa18 : a18 = (zit (bX3_step_45) (zc12 M) (M8, 0)).2 := by rw [← hkk14, ← esk14]
              refine lv_aload_n hx hb dX3_step_84 rfl (lv_at hl 0 rfl) ?_
              refine lv_iload_n hx hb dX3_step_85 rfl (lv_at hl 2 rfl) ?_
              refine z_cVv (D := (dC, dI)) (cl := vwCl) (tys := zt ca) (nw := zw_nest) (C := RX3) (As := [.int a18]) (rest := []) ⟨hx, hb, hml, hown, hts⟩ (m_X3_drive l dC dI ca ad hI M17 a18 hOk) (cwV 1 hts gX3_step_X3_drive rfl rfl rfl (by decide +kernel) ⟨Nat.le_of_ble_eq_true rfl, Nat.le_of_ble_eq_true rfl⟩) (z_recv (ci := 3) (i := 0) hK hH zk_0 (by decide) rfl) hH hK hN zw_nest_ok rfl hl.1 rfl (Nat.le_of_ble_eq_true rfl) dX3_step_86 ⟨Nat.le_refl _, Nat.le_refl _⟩ hS (fun _ h => h) (fun H locs hB1 oq1 hz1 hS => ?_)
              obtain ⟨hH, hFc⟩ := hB1
              obtain ⟨M28, hM28⟩ : ∃ z : zM, z = fX3_drive M17 a18 := ⟨_, rfl⟩
              have hH : z_H (dC, dI) vwCl zf ca zd ad M28 H := by rw [hM28]; exact hH
              have hFx : z_Fx M M28 := hFx.tr (by rw [hM28]; exact hFc)
              have hOk : z_Ok M28 := hOk0.fx hFx
              refine lv_aload_n hx hb dX3_step_89 rfl (lv_at hl 0 rfl) ?_
              refine z_cVv (D := (dC, dI)) (cl := vwCl) (tys := zt ca) (nw := zw_nest) (C := RX3) (As := []) (rest := []) ⟨hx, hb, hml, hown, hts⟩ (m_X3_warmTheTown l dC dI ca ad hI M28 hOk) (cwV 0 hts gX3_step_X3_warmTheTown rfl rfl rfl (by decide +kernel) ⟨Nat.le_of_ble_eq_true rfl, Nat.le_of_ble_eq_true rfl⟩) (z_recv (ci := 3) (i := 0) hK hH zk_0 (by decide) rfl) hH hK hN zw_nest_ok rfl hl.1 rfl (Nat.le_of_ble_eq_true rfl) dX3_step_90 ⟨Nat.le_refl _, Nat.le_refl _⟩ hS (fun _ h => h) (fun H locs hB1 oq1 hz1 hS => ?_)
              obtain ⟨hH, hFc⟩ := hB1
              obtain ⟨M29, hM29⟩ : ∃ z : zM, z = fX3_warmTheTown M28  := ⟨_, rfl⟩
              have hH : z_H (dC, dI) vwCl zf ca zd ad M29 H := by rw [hM29]; exact hH
              have hFx : z_Fx M M29 := hFx.tr (by rw [hM29]; exact hFc)
              have hOk : z_Ok M29 := hOk0.fx hFx
              refine lv_aload_n hx hb dX3_step_93 rfl (lv_at hl 0 rfl) ?_
              refine z_cVv (D := (dC, dI)) (cl := vwCl) (tys := zt ca) (nw := zw_nest) (C := RX3) (As := []) (rest := []) ⟨hx, hb, hml, hown, hts⟩ (m_X3_spill l dC dI ca ad hI M29 hOk) (cwV 0 hts gX3_step_X3_spill rfl rfl rfl (by decide +kernel) ⟨Nat.le_of_ble_eq_true rfl, Nat.le_of_ble_eq_true rfl⟩) (z_recv (ci := 3) (i := 0) hK hH zk_0 (by decide) rfl) hH hK hN zw_nest_ok rfl hl.1 rfl (Nat.le_of_ble_eq_true rfl) dX3_step_94 ⟨Nat.le_refl _, Nat.le_refl _⟩ hS (fun _ h => h) (fun H locs hB1 oq1 hz1 hS => ?_)
              obtain ⟨hH, hFc⟩ := hB1
              obtain ⟨M30, hM30⟩ : ∃ z : zM, z = fX3_spill M29  := ⟨_, rfl⟩
              have hH : z_H (dC, dI) vwCl zf ca zd ad M30 H := by rw [hM30]; exact hH
              have hFx : z_Fx M M30 := hFx.tr (by rw [hM30]; exact hFc)
              have hOk : z_Ok M30 := hOk0.fx hFx
              refine lv_iconst (v := 0) hx hb dX3_step_97 (by decide) ?_
              refine lv_istore_n (lv' := [(3, .int 0), (0, .ref (ad 0)), (1, .int x4), (2, .int a18)]) hx hb dX3_step_98 rfl hl (by decide) rfl (fun ls hl => ?_)
              refine lv_iconst (v := 0) hx hb dX3_step_99 (by decide) ?_
              refine lv_istore (lv' := [(4, .int 0), (3, .int 0), (0, .ref (ad 0)), (1, .int x4), (2, .int a18)]) hx hb dX3_step_100 hl (by decide) rfl (fun ls hl => ?_)
              have L36 : ∀ (d33 k31 : Nat), k31 ≤ zc12 M → zc12 M - k31 < d33 → ∀ M34 : zM, ∀ a35 : Int32, (M34, a35) = zit (bX3_step_102 x4) k31 (M30, 0) → ∀ i32 : Int32, i32 = nI k31 → ∀ ls : Array Slot, lv_has ls 5 [(0, .ref (ad 0)), (1, .int x4), (2, .int a18), (3, .int a35), (4, .int i32)] → ∀ (H : Heap) (locs : List Loc), z_H (dC, dI) vwCl zf ca zd ad M34 H → z_Fx M M34 → va_S (z_A zd ad) s.heap H locs → W p l e (headSpec wsX3_step ({ frames := 3, cells := 0, slots := 0, locals := 73 })).room s m ([.ref (ad 0)] : List Value).toArray below meth c H locs 0 0 (MQ below (z_Qv (fun H => zW dC dI ca ad (fX3_step M ) H ∧ z_Fx M (fX3_step M )) (z_A zd ad)) ([.ref (ad 0)] : List Value).toArray s 0 0 (z_A zd ad)) (F0 m 102 ls []) := by
                intro d33
                induction d33 with
                | zero => intro k31 hk31 hd; exact absurd hd (by omega)
                | succ d33 ih =>
                  intro k31 hk31 hd M34 a35 esk31 i32 ei32 ls hl H locs hH hFx hS
                  have hOk : z_Ok M34 := hOk0.fx hFx
                  refine lv_iload hx hb dX3_step_102 (lv_at hl 4 rfl) ?_
                  refine lv_aload_n hx hb dX3_step_104 rfl (lv_at hl 0 rfl) ?_
                  refine z_gi (D := (dC, dI)) (cl := vwCl) (C := RX3) (T := TX3) (N := 15) (ci := 3) (k := 12) hx hb hts hinX3 hown hK hH zk_0 (by decide) rfl (by decide) rfl (hts (.fieldLink RX3 105 "Steamfield$Land" "wellCount" "I") (by decide +kernel)) (fun _ h9 => h9) dX3_step_105 ?_
                  refine lv_topi (fun x37 ex37 => ?_)
                  have hx37 : x37 = nI (zc12 M) := by rw [ex37, hFx.c12]; exact z_Ok.c12 hOk0
                  refine lv_icmp_ge (tgt := 145) hx hb dX3_step_108 (by decide) (fun c38 => ?_) (fun c38 => ?_)
                  · have hkk31 : k31 = zc12 M := z_ge hx37 ei32 hk31 (Nat.lt_of_le_of_lt (z_Ok.n12 hOk0) (by decide)) c38
                    have qM34 : M34 = (zit (bX3_step_102 x4) (zc12 M) (M30, 0)).1 := by rw [← hkk31, ← esk31]
                    have qa35 : a35 = (zit (bX3_step_102 x4) (zc12 M) (M30, 0)).2 := by rw [← hkk31, ← esk31]
                    refine lv_aload_n hx hb dX3_step_145 rfl (lv_at hl 0 rfl) ?_
                    refine z_gr (D := (dC, dI)) (cl := vwCl) (C := RX3) (T := TX3) (N := 15) (ci := 3) (k := 8) hx hb hts hinX3 hown hK hH zk_0 (by decide) rfl (by decide) rfl (zr_0 (k := 8) (by decide)) (hts (.fieldLink RX3 60 "Steamfield$Land" "shocks" "[I") (by decide +kernel)) (fun _ h9 => h9) dX3_step_146 ?_
                    refine lv_aload_n hx hb dX3_step_149 rfl (lv_at hl 0 rfl) ?_
                    refine z_gi (D := (dC, dI)) (cl := vwCl) (C := RX3) (T := TX3) (N := 15) (ci := 3) (k := 14) hx hb hts hinX3 hown hK hH zk_0 (by decide) rfl (by decide) rfl (hts (.fieldLink RX3 111 "Steamfield$Land" "now" "I") (by decide +kernel)) (fun _ h9 => h9) dX3_step_150 ?_
                    refine lv_topi (fun x45 ex45 => ?_)
                    refine lv_iconst (v := 3) hx hb dX3_step_153 (by decide) ?_
                    refine lv_iand hx hb dX3_step_154 ?_
                    refine lv_topi (fun x46 ex46 => ?_)
                    have hx46 : z_ix x46 4 := by rw [ex46]; exact z_and3 _
                    refine lv_iload_n hx hb dX3_step_155 rfl (lv_at hl 3 rfl) ?_
                    refine zp_as (t0 := 0) (D := (dC, dI)) (cl := vwCl) (tys := zt ca) hx hb hK hH hI hS (fun _ h => h) zk_9 rfl (show vp_in x46 4 from (z_ix.in hx46)) dX3_step_156 (fun H locs hH oq hS => ?_)
                    obtain ⟨M47, hM47⟩ : ∃ z : zM, z = zu M34 9 x46.toNatClampNeg a35 := ⟨_, rfl⟩
                    rw [← hM47] at hH
                    have hFx : z_Fx M M47 := hFx.tr (by rw [hM47]; exact (z_Fx.u zk_9 rfl))
                    have hOk : z_Ok M47 := hOk0.fx hFx
                    refine lv_iconst (v := 0) hx hb dX3_step_157 (by decide) ?_
                    refine lv_istore (lv' := [(4, .int 0), (0, .ref (ad 0)), (1, .int x4), (2, .int a18), (3, .int a35)]) hx hb dX3_step_158 hl (by decide) rfl (fun ls hl => ?_)
                    have L52 : ∀ (d50 k48 : Nat), k48 ≤ zc13 M → zc13 M - k48 < d50 → ∀ M51 : zM, M51 = zit (bX3_step_160) k48 M47 → ∀ i49 : Int32, i49 = nI k48 → ∀ ls : Array Slot, lv_has ls 5 [(0, .ref (ad 0)), (1, .int x4), (2, .int a18), (3, .int a35), (4, .int i49)] → ∀ (H : Heap) (locs : List Loc), z_H (dC, dI) vwCl zf ca zd ad M51 H → z_Fx M M51 → va_S (z_A zd ad) s.heap H locs → W p l e (headSpec wsX3_step ({ frames := 3, cells := 0, slots := 0, locals := 73 })).room s m ([.ref (ad 0)] : List Value).toArray below meth c H locs 0 0 (MQ below (z_Qv (fun H => zW dC dI ca ad (fX3_step M ) H ∧ z_Fx M (fX3_step M )) (z_A zd ad)) ([.ref (ad 0)] : List Value).toArray s 0 0 (z_A zd ad)) (F0 m 160 ls []) := by
                      intro d50
                      induction d50 with
                      | zero => intro k48 hk48 hd; exact absurd hd (by omega)
                      | succ d50 ih =>
                        intro k48 hk48 hd M51 esk48 i49 ei49 ls hl H locs hH hFx hS
                        have hOk : z_Ok M51 := hOk0.fx hFx
                        refine lv_iload hx hb dX3_step_160 (lv_at hl 4 rfl) ?_
                        refine lv_aload_n hx hb dX3_step_162 rfl (lv_at hl 0 rfl) ?_
                        refine z_gi (D := (dC, dI)) (cl := vwCl) (C := RX3) (T := TX3) (N := 15) (ci := 3) (k := 13) hx hb hts hinX3 hown hK hH zk_0 (by decide) rfl (by decide) rfl (hts (.fieldLink RX3 108 "Steamfield$Land" "springCount" "I") (by decide +kernel)) (fun _ h9 => h9) dX3_step_163 ?_
                        refine lv_topi (fun x53 ex53 => ?_)
                        have hx53 : x53 = nI (zc13 M) := by rw [ex53, hFx.c13]; exact z_Ok.c13 hOk0
                        refine lv_icmp_ge (tgt := 186) hx hb dX3_step_166 (by decide) (fun c54 => ?_) (fun c54 => ?_)
                        · have hkk48 : k48 = zc13 M := z_ge hx53 ei49 hk48 (Nat.lt_of_le_of_lt (z_Ok.n13 hOk0) (by decide)) c54
                          have qM51 : M51 = (zit (bX3_step_160) (zc13 M) M47) := by rw [← hkk48, ← esk48]
                          refine lv_aload_n hx hb dX3_step_186 rfl (lv_at hl 0 rfl) ?_
                          refine z_cVv (D := (dC, dI)) (cl := vwCl) (tys := zt ca) (nw := zw_nest) (C := RX3) (As := []) (rest := []) ⟨hx, hb, hml, hown, hts⟩ (m_X3_shareOut l dC dI ca ad hI M51 hOk) (cwV 0 hts gX3_step_X3_shareOut rfl rfl rfl (by decide +kernel) ⟨Nat.le_of_ble_eq_true rfl, Nat.le_of_ble_eq_true rfl⟩) (z_recv (ci := 3) (i := 0) hK hH zk_0 (by decide) rfl) hH hK hN zw_nest_ok rfl hl.1 rfl (Nat.le_of_ble_eq_true rfl) dX3_step_187 ⟨Nat.le_refl _, Nat.le_refl _⟩ hS (fun _ h => h) (fun H locs hB1 oq1 hz1 hS => ?_)
                          obtain ⟨hH, hFc⟩ := hB1
                          obtain ⟨M57, hM57⟩ : ∃ z : zM, z = fX3_shareOut M51  := ⟨_, rfl⟩
                          have hH : z_H (dC, dI) vwCl zf ca zd ad M57 H := by rw [hM57]; exact hH
                          have hFx : z_Fx M M57 := hFx.tr (by rw [hM57]; exact hFc)
                          have hOk : z_Ok M57 := hOk0.fx hFx
                          refine lv_aload_n hx hb dX3_step_190 rfl (lv_at hl 0 rfl) ?_
                          refine z_cVv (D := (dC, dI)) (cl := vwCl) (tys := zt ca) (nw := zw_nest) (C := RX3) (As := []) (rest := []) ⟨hx, hb, hml, hown, hts⟩ (m_X3_payForLacks l dC dI ca ad hI M57 hOk) (cwV 0 hts gX3_step_X3_payForLacks rfl rfl rfl (by decide +kernel) ⟨Nat.le_of_ble_eq_true rfl, Nat.le_of_ble_eq_true rfl⟩) (z_recv (ci := 3) (i := 0) hK hH zk_0 (by decide) rfl) hH hK hN zw_nest_ok rfl hl.1 rfl (Nat.le_of_ble_eq_true rfl) dX3_step_191 ⟨Nat.le_refl _, Nat.le_refl _⟩ hS (fun _ h => h) (fun H locs hB1 oq1 hz1 hS => ?_)
                          obtain ⟨hH, hFc⟩ := hB1
                          obtain ⟨M58, hM58⟩ : ∃ z : zM, z = fX3_payForLacks M57  := ⟨_, rfl⟩
                          have hH : z_H (dC, dI) vwCl zf ca zd ad M58 H := by rw [hM58]; exact hH
                          have hFx : z_Fx M M58 := hFx.tr (by rw [hM58]; exact hFc)
                          have hOk : z_Ok M58 := hOk0.fx hFx
                          have hF : zW dC dI ca ad (fX3_step M ) H := by
                            have e9 : M58 = fX3_step M  := by subst hM58; subst hM57; subst qM51; subst hM47; subst ex46; subst ex45; subst qa35; subst qM34; subst hM30; subst hM29; subst hM28; subst qa18; subst qM17; subst qM8; subst ex4; subst hM3; subst ex2; subst ex1; rfl
                            rw [← e9]; exact hH
                          have hFF : z_Fx M (fX3_step M ) := by
                            have e9 : M58 = fX3_step M  := by subst hM58; subst hM57; subst qM51; subst hM47; subst ex46; subst ex45; subst qa35; subst qM34; subst hM30; subst hM29; subst hM28; subst qa18; subst qM17; subst qM8; subst ex4; subst hM3; subst ex2; subst ex1; rfl
                            rw [← e9]; exact hFx
                          exact W.vret hx hb hr (fun t ht hW => ⟨⟨(), rfl, trivial, z_to (B := fun H => zW dC dI ca ad (fX3_step M ) H ∧ z_Fx M (fX3_step M )) ht ⟨hF, hFF⟩⟩, hS.F ht⟩) hS.2.2 dX3_step_194
                        · have hkk48 : k48 < zc13 M := z_lt hx53 ei49 hk48 (Nat.lt_of_le_of_lt (z_Ok.n13 hOk0) (by decide)) c54
                          refine lv_aload_n hx hb dX3_step_169 rfl (lv_at hl 0 rfl) ?_
                          refine lv_aload_n hx hb dX3_step_170 rfl (lv_at hl 0 rfl) ?_
                          refine z_gr (D := (dC, dI)) (cl := vwCl) (C := RX3) (T := TX3) (N := 15) (ci := 3) (k := 3) hx hb hts hinX3 hown hK hH zk_0 (by decide) rfl (by decide) rfl (zr_0 (k := 3) (by decide)) (hts (.fieldLink RX3 31 "Steamfield$Land" "springs" "[LSteamfield$Spring;") (by decide +kernel)) (fun _ h9 => h9) dX3_step_171 ?_
                          refine lv_iload hx hb dX3_step_174 (lv_at hl 4 rfl) ?_
                          refine z_aq (t0 := 4) (D := (dC, dI)) (cl := vwCl) (tys := zt ca) hx hb hK hH zk_4 (by decide) (by decide) rfl (show vp_in i49 3 from (zx ei49 (Nat.lt_of_lt_of_le hkk48 (z_Ok.n13 hOk0)) (by decide))) (show zr 4 (i49 : Int32).toNatClampNeg = some (70 + k48) from by rw [zx_n ei49 (Nat.lt_trans (Nat.lt_of_lt_of_le hkk48 (z_Ok.n13 hOk0)) (by decide : 3 < 2 ^ 31))]; exact zr_4 (Nat.lt_of_lt_of_le hkk48 (z_Ok.n13 hOk0))) dX3_step_176 ?_
                          refine z_cVv (D := (dC, dI)) (cl := vwCl) (tys := zt ca) (nw := zw_nest) (C := RX3) (As := [.ref (ad (70 + k48))]) (rest := []) ⟨hx, hb, hml, hown, hts⟩ (m_X3_letFlow l dC dI ca ad hI M51 k48 (Nat.lt_of_lt_of_le hkk48 (z_Ok.n13 hOk0)) hOk) (cwV 1 hts gX3_step_X3_letFlow rfl rfl rfl (by decide +kernel) ⟨Nat.le_of_ble_eq_true rfl, Nat.le_of_ble_eq_true rfl⟩) (z_recv (ci := 3) (i := 0) hK hH zk_0 (by decide) rfl) hH hK hN zw_nest_ok rfl hl.1 rfl (Nat.le_of_ble_eq_true rfl) dX3_step_177 ⟨Nat.le_refl _, Nat.le_refl _⟩ hS (fun _ h => h) (fun H locs hB1 oq1 hz1 hS => ?_)
                          obtain ⟨hH, hFc⟩ := hB1
                          obtain ⟨M55, hM55⟩ : ∃ z : zM, z = fX3_letFlow M51 k48 := ⟨_, rfl⟩
                          have hH : z_H (dC, dI) vwCl zf ca zd ad M55 H := by rw [hM55]; exact hH
                          have hFx : z_Fx M M55 := hFx.tr (by rw [hM55]; exact hFc)
                          have hOk : z_Ok M55 := hOk0.fx hFx
                          obtain ⟨x56, ex56⟩ : ∃ z : Int32, z = i49 + 1 := ⟨_, rfl⟩
                          refine lv_iinc (v := x56) (lv' := [(4, .int x56), (0, .ref (ad 0)), (1, .int x4), (2, .int a18), (3, .int a35)]) hx hb dX3_step_180 hl (k := 4) rfl (by rw [ex56]; rfl) (by decide) rfl (fun ls hl => ?_)
                          refine lv_goto (tgt := 160) hx hb dX3_step_183 (by decide) ?_
                          exact ih (k48 + 1) hkk48 (by omega) M55 (by show M55 = bX3_step_160 k48 (zit (bX3_step_160) k48 M47); rw [← esk48]; subst ex56; subst hM55; subst ex53; rfl) x56 (z_nx ei49 ex56) ls (lv_sub hl [1, 2, 3, 4, 0] rfl) _ _ hH hFx hS
                    exact L52 (zc13 M + 1) 0 (Nat.zero_le _) (by omega) M47 rfl _ rfl ls (lv_sub hl [1, 2, 3, 4, 0] rfl) H locs hH hFx hS
                  · have hkk31 : k31 < zc12 M := z_lt hx37 ei32 hk31 (Nat.lt_of_le_of_lt (z_Ok.n12 hOk0) (by decide)) c38
                    refine lv_aload_n hx hb dX3_step_111 rfl (lv_at hl 0 rfl) ?_
                    refine z_gr (D := (dC, dI)) (cl := vwCl) (C := RX3) (T := TX3) (N := 15) (ci := 3) (k := 2) hx hb hts hinX3 hown hK hH zk_0 (by decide) rfl (by decide) rfl (zr_0 (k := 2) (by decide)) (hts (.fieldLink RX3 25 "Steamfield$Land" "wells" "[LSteamfield$Well;") (by decide +kernel)) (fun _ h9 => h9) dX3_step_112 ?_
                    refine lv_iload hx hb dX3_step_115 (lv_at hl 4 rfl) ?_
                    refine z_aq (t0 := 3) (D := (dC, dI)) (cl := vwCl) (tys := zt ca) hx hb hK hH zk_3 (by decide) (by decide) rfl (show vp_in i32 6 from (zx ei32 (Nat.lt_of_lt_of_le hkk31 (z_Ok.n12 hOk0)) (by decide))) (show zr 3 (i32 : Int32).toNatClampNeg = some (60 + k31) from by rw [zx_n ei32 (Nat.lt_trans (Nat.lt_of_lt_of_le hkk31 (z_Ok.n12 hOk0)) (by decide : 6 < 2 ^ 31))]; exact zr_3 (Nat.lt_of_lt_of_le hkk31 (z_Ok.n12 hOk0))) dX3_step_117 ?_
                    refine z_giN (D := (dC, dI)) (cl := vwCl) (C := RX7) (T := TX7) (N := 9) (ci := 7) (k := 1) hx hb hts hinX7 hown hK hH (zk_v (Nat.lt_of_lt_of_le hkk31 (z_Ok.n12 hOk0))) (by decide) rfl (by decide) rfl (hN (.fieldLinkNest RX3 139 "Steamfield$Well" "isInjector" "Z" "Steamfield") (by decide +kernel)) (fun _ h9 => h9) dX3_step_118 ?_
                    refine lv_topi (fun x39 ex39 => ?_)
                    have J43 : ∀ x41 : Int32, x41 = (if x39 = 0 then a35 else (let x41 := rX3_inject M34 k31 x4; let M42 := fX3_inject M34 k31 x4; let x43 := a35 + x41; x43)) → ∀ M42 : zM, M42 = (if x39 = 0 then M34 else (let x41 := rX3_inject M34 k31 x4; let M42 := fX3_inject M34 k31 x4; let x43 := a35 + x41; M42)) → ∀ ls : Array Slot, lv_has ls 5 [(0, .ref (ad 0)), (1, .int x4), (2, .int a18), (3, .int x41), (4, .int i32)] → ∀ (H : Heap) (locs : List Loc), z_H (dC, dI) vwCl zf ca zd ad M42 H → z_Fx M M42 → va_S (z_A zd ad) s.heap H locs → W p l e (headSpec wsX3_step ({ frames := 3, cells := 0, slots := 0, locals := 73 })).room s m ([.ref (ad 0)] : List Value).toArray below meth c H locs 0 0 (MQ below (z_Qv (fun H => zW dC dI ca ad (fX3_step M ) H ∧ z_Fx M (fX3_step M )) (z_A zd ad)) ([.ref (ad 0)] : List Value).toArray s 0 0 (z_A zd ad)) (F0 m 139 ls []) := by
                      intro x41 ex41 M42 hM42 ls hl H locs hH hFx hS
                      have hOk : z_Ok M42 := hOk0.fx hFx
                      obtain ⟨x44, ex44⟩ : ∃ z : Int32, z = i32 + 1 := ⟨_, rfl⟩
                      refine lv_iinc (v := x44) (lv' := [(4, .int x44), (0, .ref (ad 0)), (1, .int x4), (2, .int a18), (3, .int x41)]) hx hb dX3_step_139 hl (k := 4) rfl (by rw [ex44]; rfl) (by decide) rfl (fun ls hl => ?_)
                      refine lv_goto (tgt := 102) hx hb dX3_step_142 (by decide) ?_
                      exact ih (k31 + 1) hkk31 (by omega) M42 x41 (by show (M42, x41) = bX3_step_102 x4 k31 (zit (bX3_step_102 x4) k31 (M30, 0)); rw [← esk31]; subst ex44; subst hM42; subst ex41; subst ex39; subst ex37; rfl) x44 (z_nx ei32 ex44) ls (lv_sub hl [1, 2, 3, 4, 0] rfl) _ _ hH hFx hS
                    refine lv_if_eq (tgt := 139) hx hb dX3_step_121 (by decide) (fun c40 => ?_) (fun c40 => ?_)
                    · exact J43 _ (by exact (if_pos c40).symm) _ (by exact (if_pos c40).symm) ls (lv_sub hl [0, 1, 2, 3, 4] rfl) _ _ hH hFx hS
                    · refine lv_iload_n hx hb dX3_step_124 rfl (lv_at hl 3 rfl) ?_
                      refine lv_aload_n hx hb dX3_step_125 rfl (lv_at hl 0 rfl) ?_
                      refine lv_aload_n hx hb dX3_step_126 rfl (lv_at hl 0 rfl) ?_
                      refine z_gr (D := (dC, dI)) (cl := vwCl) (C := RX3) (T := TX3) (N := 15) (ci := 3) (k := 2) hx hb hts hinX3 hown hK hH zk_0 (by decide) rfl (by decide) rfl (zr_0 (k := 2) (by decide)) (hts (.fieldLink RX3 25 "Steamfield$Land" "wells" "[LSteamfield$Well;") (by decide +kernel)) (fun _ h9 => h9) dX3_step_127 ?_
                      refine lv_iload hx hb dX3_step_130 (lv_at hl 4 rfl) ?_
                      refine z_aq (t0 := 3) (D := (dC, dI)) (cl := vwCl) (tys := zt ca) hx hb hK hH zk_3 (by decide) (by decide) rfl (show vp_in i32 6 from (zx ei32 (Nat.lt_of_lt_of_le hkk31 (z_Ok.n12 hOk0)) (by decide))) (show zr 3 (i32 : Int32).toNatClampNeg = some (60 + k31) from by rw [zx_n ei32 (Nat.lt_trans (Nat.lt_of_lt_of_le hkk31 (z_Ok.n12 hOk0)) (by decide : 6 < 2 ^ 31))]; exact zr_3 (Nat.lt_of_lt_of_le hkk31 (z_Ok.n12 hOk0))) dX3_step_132 ?_
                      refine lv_iload_n hx hb dX3_step_133 rfl (lv_at hl 1 rfl) ?_
                      refine z_cVi (D := (dC, dI)) (cl := vwCl) (tys := zt ca) (nw := zw_nest) (C := RX3) (As := [.ref (ad (60 + k31)), .int x4]) (rest := [.int a35]) ⟨hx, hb, hml, hown, hts⟩ (m_X3_inject l dC dI ca ad hI M34 k31 (Nat.lt_of_lt_of_le hkk31 (z_Ok.n12 hOk0)) x4 hOk) (cwV 2 hts gX3_step_X3_inject rfl rfl rfl (by decide +kernel) ⟨Nat.le_of_ble_eq_true rfl, Nat.le_of_ble_eq_true rfl⟩) (z_recv (ci := 3) (i := 0) hK hH zk_0 (by decide) rfl) hH hK hN zw_nest_ok rfl hl.1 rfl (Nat.le_of_ble_eq_true rfl) dX3_step_134 ⟨Nat.le_refl _, Nat.le_refl _⟩ hS (fun _ h => h) (fun H locs hB1 oq1 hz1 hS => ?_)
                      obtain ⟨hH, hFc⟩ := hB1
                      refine lv_topi (fun x41 ex41 => ?_)
                      obtain ⟨M42, hM42⟩ : ∃ z : zM, z = fX3_inject M34 k31 x4 := ⟨_, rfl⟩
                      have hH : z_H (dC, dI) vwCl zf ca zd ad M42 H := by rw [hM42]; exact hH
                      have hFx : z_Fx M M42 := hFx.tr (by rw [hM42]; exact hFc)
                      have hOk : z_Ok M42 := hOk0.fx hFx
                      refine lv_iadd hx hb dX3_step_137 ?_
                      refine lv_topi (fun x43 ex43 => ?_)
                      refine lv_istore_n (lv' := [(3, .int x43), (0, .ref (ad 0)), (1, .int x4), (2, .int a18), (4, .int i32)]) hx hb dX3_step_138 rfl hl (by decide) rfl (fun ls hl => ?_)
                      exact J43 _ (by subst ex43; subst hM42; subst ex41; exact (if_neg c40).symm) _ (by subst ex43; subst hM42; subst ex41; exact (if_neg c40).symm) ls (lv_sub hl [1, 2, 3, 0, 4] rfl) _ _ hH hFx hS
              exact L36 (zc12 M + 1) 0 (Nat.zero_le _) (by omega) M30 0 rfl _ rfl ls (lv_sub hl [2, 3, 4, 1, 0] rfl) H locs hH hFx hS
            · have hkk14 : k14 < zc12 M := z_lt hx20 ei15 hk14 (Nat.lt_of_le_of_lt (z_Ok.n12 hOk0) (by decide)) c21
              refine lv_aload_n hx hb dX3_step_53 rfl (lv_at hl 0 rfl) ?_
              refine z_gr (D := (dC, dI)) (cl := vwCl) (C := RX3) (T := TX3) (N := 15) (ci := 3) (k := 2) hx hb hts hinX3 hown hK hH zk_0 (by decide) rfl (by decide) rfl (zr_0 (k := 2) (by decide)) (hts (.fieldLink RX3 25 "Steamfield$Land" "wells" "[LSteamfield$Well;") (by decide +kernel)) (fun _ h9 => h9) dX3_step_54 ?_
              refine lv_iload_n hx hb dX3_step_57 rfl (lv_at hl 3 rfl) ?_
              refine z_aq (t0 := 3) (D := (dC, dI)) (cl := vwCl) (tys := zt ca) hx hb hK hH zk_3 (by decide) (by decide) rfl (show vp_in i15 6 from (zx ei15 (Nat.lt_of_lt_of_le hkk14 (z_Ok.n12 hOk0)) (by decide))) (show zr 3 (i15 : Int32).toNatClampNeg = some (60 + k14) from by rw [zx_n ei15 (Nat.lt_trans (Nat.lt_of_lt_of_le hkk14 (z_Ok.n12 hOk0)) (by decide : 6 < 2 ^ 31))]; exact zr_3 (Nat.lt_of_lt_of_le hkk14 (z_Ok.n12 hOk0))) dX3_step_58 ?_
              refine z_giN (D := (dC, dI)) (cl := vwCl) (C := RX7) (T := TX7) (N := 9) (ci := 7) (k := 1) hx hb hts hinX7 hown hK hH (zk_v (Nat.lt_of_lt_of_le hkk14 (z_Ok.n12 hOk0))) (by decide) rfl (by decide) rfl (hN (.fieldLinkNest RX3 139 "Steamfield$Well" "isInjector" "Z" "Steamfield") (by decide +kernel)) (fun _ h9 => h9) dX3_step_59 ?_
              refine lv_topi (fun x22 ex22 => ?_)
              have J26 : ∀ x24 : Int32, x24 = (if ¬ x22 = 0 then a18 else (let x24 := rX3_produce M17 k14; let M25 := fX3_produce M17 k14; let x26 := a18 + x24; x26)) → ∀ M25 : zM, M25 = (if ¬ x22 = 0 then M17 else (let x24 := rX3_produce M17 k14; let M25 := fX3_produce M17 k14; let x26 := a18 + x24; M25)) → ∀ ls : Array Slot, lv_has ls 5 [(0, .ref (ad 0)), (1, .int x4), (2, .int x24), (3, .int i15)] → ∀ (H : Heap) (locs : List Loc), z_H (dC, dI) vwCl zf ca zd ad M25 H → z_Fx M M25 → va_S (z_A zd ad) s.heap H locs → W p l e (headSpec wsX3_step ({ frames := 3, cells := 0, slots := 0, locals := 73 })).room s m ([.ref (ad 0)] : List Value).toArray below meth c H locs 0 0 (MQ below (z_Qv (fun H => zW dC dI ca ad (fX3_step M ) H ∧ z_Fx M (fX3_step M )) (z_A zd ad)) ([.ref (ad 0)] : List Value).toArray s 0 0 (z_A zd ad)) (F0 m 78 ls []) := by
                intro x24 ex24 M25 hM25 ls hl H locs hH hFx hS
                have hOk : z_Ok M25 := hOk0.fx hFx
                obtain ⟨x27, ex27⟩ : ∃ z : Int32, z = i15 + 1 := ⟨_, rfl⟩
                refine lv_iinc (v := x27) (lv' := [(3, .int x27), (0, .ref (ad 0)), (1, .int x4), (2, .int x24)]) hx hb dX3_step_78 hl (k := 3) rfl (by rw [ex27]; rfl) (by decide) rfl (fun ls hl => ?_)
                refine lv_goto (tgt := 45) hx hb dX3_step_81 (by decide) ?_
                exact ih (k14 + 1) hkk14 (by omega) M25 x24 (by show (M25, x24) = bX3_step_45 k14 (zit (bX3_step_45) k14 (M8, 0)); rw [← esk14]; subst ex27; subst hM25; subst ex24; subst ex22; subst ex20; rfl) x27 (z_nx ei15 ex27) ls (lv_sub hl [1, 2, 3, 0] rfl) _ _ hH hFx hS
              refine lv_if_ne (tgt := 78) hx hb dX3_step_62 (by decide) (fun c23 => ?_) (fun c23 => ?_)
              · exact J26 _ (by exact (if_pos c23).symm) _ (by exact (if_pos c23).symm) ls (lv_sub hl [0, 1, 2, 3] rfl) _ _ hH hFx hS
              · refine lv_iload_n hx hb dX3_step_65 rfl (lv_at hl 2 rfl) ?_
                refine lv_aload_n hx hb dX3_step_66 rfl (lv_at hl 0 rfl) ?_
                refine lv_aload_n hx hb dX3_step_67 rfl (lv_at hl 0 rfl) ?_
                refine z_gr (D := (dC, dI)) (cl := vwCl) (C := RX3) (T := TX3) (N := 15) (ci := 3) (k := 2) hx hb hts hinX3 hown hK hH zk_0 (by decide) rfl (by decide) rfl (zr_0 (k := 2) (by decide)) (hts (.fieldLink RX3 25 "Steamfield$Land" "wells" "[LSteamfield$Well;") (by decide +kernel)) (fun _ h9 => h9) dX3_step_68 ?_
                refine lv_iload_n hx hb dX3_step_71 rfl (lv_at hl 3 rfl) ?_
                refine z_aq (t0 := 3) (D := (dC, dI)) (cl := vwCl) (tys := zt ca) hx hb hK hH zk_3 (by decide) (by decide) rfl (show vp_in i15 6 from (zx ei15 (Nat.lt_of_lt_of_le hkk14 (z_Ok.n12 hOk0)) (by decide))) (show zr 3 (i15 : Int32).toNatClampNeg = some (60 + k14) from by rw [zx_n ei15 (Nat.lt_trans (Nat.lt_of_lt_of_le hkk14 (z_Ok.n12 hOk0)) (by decide : 6 < 2 ^ 31))]; exact zr_3 (Nat.lt_of_lt_of_le hkk14 (z_Ok.n12 hOk0))) dX3_step_72 ?_
                refine z_cVi (D := (dC, dI)) (cl := vwCl) (tys := zt ca) (nw := zw_nest) (C := RX3) (As := [.ref (ad (60 + k14))]) (rest := [.int a18]) ⟨hx, hb, hml, hown, hts⟩ (m_X3_produce l dC dI ca ad hI M17 k14 (Nat.lt_of_lt_of_le hkk14 (z_Ok.n12 hOk0)) hOk) (cwV 1 hts gX3_step_X3_produce rfl rfl rfl (by decide +kernel) ⟨Nat.le_of_ble_eq_true rfl, Nat.le_of_ble_eq_true rfl⟩) (z_recv (ci := 3) (i := 0) hK hH zk_0 (by decide) rfl) hH hK hN zw_nest_ok rfl hl.1 rfl (Nat.le_of_ble_eq_true rfl) dX3_step_73 ⟨Nat.le_refl _, Nat.le_refl _⟩ hS (fun _ h => h) (fun H locs hB1 oq1 hz1 hS => ?_)
                obtain ⟨hH, hFc⟩ := hB1
                refine lv_topi (fun x24 ex24 => ?_)
                obtain ⟨M25, hM25⟩ : ∃ z : zM, z = fX3_produce M17 k14 := ⟨_, rfl⟩
                have hH : z_H (dC, dI) vwCl zf ca zd ad M25 H := by rw [hM25]; exact hH
                have hFx : z_Fx M M25 := hFx.tr (by rw [hM25]; exact hFc)
                have hOk : z_Ok M25 := hOk0.fx hFx
                refine lv_iadd hx hb dX3_step_76 ?_
                refine lv_topi (fun x26 ex26 => ?_)
                refine lv_istore_n (lv' := [(2, .int x26), (0, .ref (ad 0)), (1, .int x4), (3, .int i15)]) hx hb dX3_step_77 rfl hl (by decide) rfl (fun ls hl => ?_)
                exact J26 _ (by subst ex26; subst hM25; subst ex24; exact (if_neg (fun hh => hh c23)).symm) _ (by subst ex26; subst hM25; subst ex24; exact (if_neg (fun hh => hh c23)).symm) ls (lv_sub hl [1, 2, 0, 3] rfl) _ _ hH hFx hS
        exact L19 (zc12 M + 1) 0 (Nat.zero_le _) (by omega) M8 0 rfl _ rfl ls (lv_sub hl [2, 3, 1, 0] rfl) H locs hH hFx hS
      · have hkk5 : k5 < zc11 M := z_lt hx10 ei6 hk5 (Nat.lt_of_le_of_lt (z_Ok.n11 hOk0) (by decide)) c11
        refine lv_aload_n hx hb dX3_step_25 rfl (lv_at hl 0 rfl) ?_
        refine lv_aload_n hx hb dX3_step_26 rfl (lv_at hl 0 rfl) ?_
        refine z_gr (D := (dC, dI)) (cl := vwCl) (C := RX3) (T := TX3) (N := 15) (ci := 3) (k := 1) hx hb hts hinX3 hown hK hH zk_0 (by decide) rfl (by decide) rfl (zr_0 (k := 1) (by decide)) (hts (.fieldLink RX3 19 "Steamfield$Land" "faces" "[LSteamfield$Face;") (by decide +kernel)) (fun _ h9 => h9) dX3_step_27 ?_
        refine lv_iload_n hx hb dX3_step_30 rfl (lv_at hl 2 rfl) ?_
        refine z_aq (t0 := 2) (D := (dC, dI)) (cl := vwCl) (tys := zt ca) hx hb hK hH zk_2 (by decide) (by decide) rfl (show vp_in i6 12 from (zx ei6 (Nat.lt_of_lt_of_le hkk5 (z_Ok.n11 hOk0)) (by decide))) (show zr 2 (i6 : Int32).toNatClampNeg = some (40 + k5) from by rw [zx_n ei6 (Nat.lt_trans (Nat.lt_of_lt_of_le hkk5 (z_Ok.n11 hOk0)) (by decide : 12 < 2 ^ 31))]; exact zr_2 (Nat.lt_of_lt_of_le hkk5 (z_Ok.n11 hOk0))) dX3_step_31 ?_
        refine z_cVv (D := (dC, dI)) (cl := vwCl) (tys := zt ca) (nw := zw_nest) (C := RX3) (As := [.ref (ad (40 + k5))]) (rest := []) ⟨hx, hb, hml, hown, hts⟩ (m_X3_flowThrough l dC dI ca ad hI M8 k5 (Nat.lt_of_lt_of_le hkk5 (z_Ok.n11 hOk0)) hOk) (cwV 1 hts gX3_step_X3_flowThrough rfl rfl rfl (by decide +kernel) ⟨Nat.le_of_ble_eq_true rfl, Nat.le_of_ble_eq_true rfl⟩) (z_recv (ci := 3) (i := 0) hK hH zk_0 (by decide) rfl) hH hK hN zw_nest_ok rfl hl.1 rfl (Nat.le_of_ble_eq_true rfl) dX3_step_32 ⟨Nat.le_refl _, Nat.le_refl _⟩ hS (fun _ h => h) (fun H locs hB1 oq1 hz1 hS => ?_)
        obtain ⟨hH, hFc⟩ := hB1
        obtain ⟨M12, hM12⟩ : ∃ z : zM, z = fX3_flowThrough M8 k5 := ⟨_, rfl⟩
        have hH : z_H (dC, dI) vwCl zf ca zd ad M12 H := by rw [hM12]; exact hH
        have hFx : z_Fx M M12 := hFx.tr (by rw [hM12]; exact hFc)
        have hOk : z_Ok M12 := hOk0.fx hFx
        obtain ⟨x13, ex13⟩ : ∃ z : Int32, z = i6 + 1 := ⟨_, rfl⟩
        refine lv_iinc (v := x13) (lv' := [(2, .int x13), (0, .ref (ad 0)), (1, .int x4)]) hx hb dX3_step_35 hl (k := 2) rfl (by rw [ex13]; rfl) (by decide) rfl (fun ls hl => ?_)
        refine lv_goto (tgt := 17) hx hb dX3_step_38 (by decide) ?_
        exact ih (k5 + 1) hkk5 (by omega) M12 (by show M12 = bX3_step_17 k5 (zit (bX3_step_17) k5 M3); rw [← esk5]; subst ex13; subst hM12; subst ex10; rfl) x13 (z_nx ei6 ex13) ls (lv_sub hl [1, 2, 0] rfl) _ _ hH hFx hS
  exact L9 (zc11 M + 1) 0 (Nat.zero_le _) (by omega) M3 rfl _ rfl ls (lv_sub hl [2, 1, 0] rfl) H locs hH hFx hS

def bX8_powerIn_10  (k2 : Nat) (st : zM) : zM :=
  let M5 := st
  let M8 := fX3_step M5 
  M8
def fX8_powerIn (M : zM) (a0 : Int32) : zM :=
  let x1 := M 6 3
  let M5 := (zit (bX8_powerIn_10) (a0.toNatClampNeg) M)
  let x10 := M5 6 3
  let x11 := x10 - x1
  M5
def rX8_powerIn (M : zM) (a0 : Int32) : Int32 :=
  let x1 := M 6 3
  let M5 := (zit (bX8_powerIn_10) (a0.toNatClampNeg) M)
  let x10 := M5 6 3
  let x11 := x10 - x1
  x11
set_option maxHeartbeats 4000000 in
set_option maxRecDepth 100000 in
theorem m_X8_powerIn (l : Launch) (dC : Nat → ClassId) (dI : Nat → Nat → Nat) (ca : Nat → ClassId) (ad : Nat → Nat) (hI : z_I zd ad) (M : zM) (a0 : Int32) (hOk0 : z_Ok M) (h_st : z_ix a0 31) : Met l yX8_powerIn wsX8_powerIn ({ frames := 4, cells := 0, slots := 0, locals := 97 }) (z_Pc (dC, dI) vwCl (zt ca) zw_nest [.ref (ad 0), .int a0] (fun H => zW dC dI ca ad M H)) (z_Qi (rX8_powerIn M a0) (fun H => zW dC dI ca ad (fX8_powerIn M a0) H ∧ z_Fx M (fX8_powerIn M a0)) (z_A zd ad)) 0 0 (z_A zd ad) := by
  refine Met.ofW (cc := cX8_powerIn) (maxL := 4) (ret := (some .int)) (by decide) rfl ?_
  intro p e s m args below meth c s₁ B hml hv
  obtain ⟨rfl, hH, hK, hN⟩ := hv
  have hx := B.exec
  have hb := B.bytes
  have hr := B.returns
  have hts := atoms_spec (ws := wsX8_powerIn) B.pre
  have hown : s.vm.findClass RX8 = some m.cls := findClass_of_methodNamed B.named
  have hlocks := B.notSynchronized
  have hS : va_S (z_A zd ad) s.heap s.heap [] := va_S.rf
  have hOk := hOk0
  have hFx : z_Fx M M := z_Fx.rf
  have hH : z_H (dC, dI) vwCl zf ca zd ad M s.heap := hH
  have hinX3 : ∀ w ∈ u_ws RX3 TX3 15, w ∈ wsX8_powerIn := by decide +kernel
  have hinX4 : ∀ w ∈ u_ws RX4 TX4 6, w ∈ wsX8_powerIn := by decide +kernel
  have hl := lv_entry ([.ref (ad 0), .int a0]) (n := 4) (Nat.le_of_ble_eq_true rfl)
  rw [lg_entry_eq]
  generalize (lg_sl ([.ref (ad 0), .int a0]) ++ List.replicate (4 - (lg_sl ([.ref (ad 0), .int a0])).length) Slot.unset).toArray = ls at hl ⊢
  have hl : lv_has ls 4 [(0, .ref (ad 0)), (1, .int a0)] := hl
  refine lv_aload_n hx hb dX8_powerIn_0 rfl (lv_at hl 0 rfl) ?_
  refine z_grN (D := (dC, dI)) (cl := vwCl) (C := RX3) (T := TX3) (N := 15) (ci := 3) (k := 5) hx hb hts hinX3 hown hK hH zk_0 (by decide) rfl (by decide) rfl (zr_0 (k := 5) (by decide)) (hN (.fieldLinkNest RX8 154 "Steamfield$Land" "plant" "LSteamfield$Plant;" "Steamfield") (by decide +kernel)) (fun _ h9 => h9) dX8_powerIn_1 ?_
  refine z_giN (D := (dC, dI)) (cl := vwCl) (C := RX4) (T := TX4) (N := 6) (ci := 4) (k := 3) hx hb hts hinX4 hown hK hH zk_6 (by decide) rfl (by decide) rfl (hN (.fieldLinkNest RX8 239 "Steamfield$Plant" "powerEver" "I" "Steamfield") (by decide +kernel)) (fun _ h9 => h9) dX8_powerIn_4 ?_
  refine lv_topi (fun x1 ex1 => ?_)
  refine lv_istore_n (lv' := [(2, .int x1), (0, .ref (ad 0)), (1, .int a0)]) hx hb dX8_powerIn_7 rfl hl (by decide) rfl (fun ls hl => ?_)
  refine lv_iconst (v := 0) hx hb dX8_powerIn_8 (by decide) ?_
  refine lv_istore_n (lv' := [(3, .int 0), (2, .int x1), (0, .ref (ad 0)), (1, .int a0)]) hx hb dX8_powerIn_9 rfl hl (by decide) rfl (fun ls hl => ?_)
  have L6 : ∀ (d4 k2 : Nat), k2 ≤ a0.toNatClampNeg → a0.toNatClampNeg - k2 < d4 → ∀ M5 : zM, M5 = zit (bX8_powerIn_10) k2 M → ∀ i3 : Int32, i3 = nI k2 → ∀ ls : Array Slot, lv_has ls 4 [(0, .ref (ad 0)), (1, .int a0), (2, .int x1), (3, .int i3)] → ∀ (H : Heap) (locs : List Loc), z_H (dC, dI) vwCl zf ca zd ad M5 H → z_Fx M M5 → va_S (z_A zd ad) s.heap H locs → W p l e (headSpec wsX8_powerIn ({ frames := 4, cells := 0, slots := 0, locals := 97 })).room s m ([.ref (ad 0), .int a0] : List Value).toArray below meth c H locs 0 0 (MQ below (z_Qi (rX8_powerIn M a0) (fun H => zW dC dI ca ad (fX8_powerIn M a0) H ∧ z_Fx M (fX8_powerIn M a0)) (z_A zd ad)) ([.ref (ad 0), .int a0] : List Value).toArray s 0 0 (z_A zd ad)) (F0 m 10 ls []) := by
    intro d4
    induction d4 with
    | zero => intro k2 hk2 hd; exact absurd hd (by omega)
    | succ d4 ih =>
      intro k2 hk2 hd M5 esk2 i3 ei3 ls hl H locs hH hFx hS
      have hOk : z_Ok M5 := hOk0.fx hFx
      refine lv_iload_n hx hb dX8_powerIn_10 rfl (lv_at hl 3 rfl) ?_
      refine lv_iload_n hx hb dX8_powerIn_11 rfl (lv_at hl 1 rfl) ?_
      refine lv_icmp_ge (tgt := 25) hx hb dX8_powerIn_12 (by decide) (fun c7 => ?_) (fun c7 => ?_)
      · have hkk2 : k2 = a0.toNatClampNeg := z_ge (z_ix.eq h_st) ei3 hk2 (Nat.lt_of_le_of_lt (Nat.le_of_lt_succ (z_ix.lt h_st)) (by decide)) c7
        have qM5 : M5 = (zit (bX8_powerIn_10) (a0.toNatClampNeg) M) := by rw [← hkk2, ← esk2]
        refine lv_aload_n hx hb dX8_powerIn_25 rfl (lv_at hl 0 rfl) ?_
        refine z_grN (D := (dC, dI)) (cl := vwCl) (C := RX3) (T := TX3) (N := 15) (ci := 3) (k := 5) hx hb hts hinX3 hown hK hH zk_0 (by decide) rfl (by decide) rfl (zr_0 (k := 5) (by decide)) (hN (.fieldLinkNest RX8 154 "Steamfield$Land" "plant" "LSteamfield$Plant;" "Steamfield") (by decide +kernel)) (fun _ h9 => h9) dX8_powerIn_26 ?_
        refine z_giN (D := (dC, dI)) (cl := vwCl) (C := RX4) (T := TX4) (N := 6) (ci := 4) (k := 3) hx hb hts hinX4 hown hK hH zk_6 (by decide) rfl (by decide) rfl (hN (.fieldLinkNest RX8 239 "Steamfield$Plant" "powerEver" "I" "Steamfield") (by decide +kernel)) (fun _ h9 => h9) dX8_powerIn_29 ?_
        refine lv_topi (fun x10 ex10 => ?_)
        refine lv_iload_n hx hb dX8_powerIn_32 rfl (lv_at hl 2 rfl) ?_
        refine lv_isub hx hb dX8_powerIn_33 ?_
        refine lv_topi (fun x11 ex11 => ?_)
        have hF : zW dC dI ca ad (fX8_powerIn M a0) H := by
          have e9 : M5 = fX8_powerIn M a0 := by subst ex11; subst ex10; subst qM5; subst ex1; rfl
          rw [← e9]; exact hH
        have hFF : z_Fx M (fX8_powerIn M a0) := by
          have e9 : M5 = fX8_powerIn M a0 := by subst ex11; subst ex10; subst qM5; subst ex1; rfl
          rw [← e9]; exact hFx
        have hR : x11 = rX8_powerIn M a0 := by subst ex11; subst ex10; subst qM5; subst ex1; rfl
        exact W.iret (v := x11) hx hb hr (fun t ht hW => ⟨⟨x11, (), rfl, hR, z_to (B := fun H => zW dC dI ca ad (fX8_powerIn M a0) H ∧ z_Fx M (fX8_powerIn M a0)) ht ⟨hF, hFF⟩⟩, hS.F ht⟩) hS.2.2 dX8_powerIn_34
      · have hkk2 : k2 < a0.toNatClampNeg := z_lt (z_ix.eq h_st) ei3 hk2 (Nat.lt_of_le_of_lt (Nat.le_of_lt_succ (z_ix.lt h_st)) (by decide)) c7
        refine lv_aload_n hx hb dX8_powerIn_15 rfl (lv_at hl 0 rfl) ?_
        refine z_cVv (D := (dC, dI)) (cl := vwCl) (tys := zt ca) (nw := zw_nest) (C := RX3) (As := []) (rest := []) ⟨hx, hb, hml, hown, hts⟩ (m_X3_step l dC dI ca ad hI M5 hOk) (cwV 0 hts gX8_powerIn_X3_step rfl rfl rfl (by decide +kernel) ⟨Nat.le_of_ble_eq_true rfl, Nat.le_of_ble_eq_true rfl⟩) (z_recv (ci := 3) (i := 0) hK hH zk_0 (by decide) rfl) hH hK hN zw_nest_ok rfl hl.1 rfl (Nat.le_of_ble_eq_true rfl) dX8_powerIn_16 ⟨Nat.le_refl _, Nat.le_refl _⟩ hS (fun _ h => h) (fun H locs hB1 oq1 hz1 hS => ?_)
        obtain ⟨hH, hFc⟩ := hB1
        obtain ⟨M8, hM8⟩ : ∃ z : zM, z = fX3_step M5  := ⟨_, rfl⟩
        have hH : z_H (dC, dI) vwCl zf ca zd ad M8 H := by rw [hM8]; exact hH
        have hFx : z_Fx M M8 := hFx.tr (by rw [hM8]; exact hFc)
        have hOk : z_Ok M8 := hOk0.fx hFx
        obtain ⟨x9, ex9⟩ : ∃ z : Int32, z = i3 + 1 := ⟨_, rfl⟩
        refine lv_iinc (v := x9) (lv' := [(3, .int x9), (0, .ref (ad 0)), (1, .int a0), (2, .int x1)]) hx hb dX8_powerIn_19 hl (k := 3) rfl (by rw [ex9]; rfl) (by decide) rfl (fun ls hl => ?_)
        refine lv_goto (tgt := 10) hx hb dX8_powerIn_22 (by decide) ?_
        exact ih (k2 + 1) hkk2 (by omega) M8 (by show M8 = bX8_powerIn_10 k2 (zit (bX8_powerIn_10) k2 M); rw [← esk2]; subst ex9; subst hM8; rfl) x9 (z_nx ei3 ex9) ls (lv_sub hl [1, 2, 3, 0] rfl) _ _ hH hFx hS
  exact L6 (a0.toNatClampNeg + 1) 0 (Nat.zero_le _) (by omega) M rfl _ rfl ls (lv_sub hl [2, 3, 1, 0] rfl) s.heap [] hH hFx hS
end
