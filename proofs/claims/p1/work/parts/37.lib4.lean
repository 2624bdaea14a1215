/-! ===== a world that grows: objects and rows are made, references are written ===== -/
def zdk (wd : zD) (i c : Nat) : zD := (fun j => if j = i then c else wd.1 j, wd.2.1, wd.2.2)
def zdr (wd : zD) (i k j : Nat) : zD := (wd.1, fun a q => if a = i ∧ q = k then some j else wd.2.1 a q, wd.2.2)
theorem z_fl_outr (R : Nat → Option Nat) (x : Nat → Int32) (k : Nat) (r : Option Nat) : ∀ (l : List Bool) (i : Nat), k < i → z_fl (fun q => if q = k then r else R q) x l i = z_fl R x l i
  | [], i, h => rfl
  | b :: l, i, h => by
    simp only [z_fl]
    rw [z_fl_outr R x k r l (i + 1) (by omega), if_neg (show ¬ i = k by omega)]
theorem z_fl_setr (R : Nat → Option Nat) (x : Nat → Int32) (r : Option Nat) : ∀ (l : List Bool) (i k : Nat), l[k]? = some true → z_fl (fun q => if q = i + k then r else R q) x l i = (z_fl R x l i).set k (va_rf r)
  | [], i, k, h => by simp at h
  | c :: l, i, 0, h => by
    simp only [List.getElem?_cons_zero, Option.some.injEq] at h
    subst h
    simp only [z_fl, Nat.add_zero, if_true, List.set_cons_zero]
    rw [z_fl_outr R x i r l (i + 1) (by omega)]
  | c :: l, i, k + 1, h => by
    simp only [List.getElem?_cons_succ] at h
    have := z_fl_setr R x r l (i + 1) k h
    simp only [z_fl, List.set_cons_succ]
    rw [show i + (k + 1) = i + 1 + k by omega, this, if_neg (show ¬ i = i + 1 + k by omega)]
theorem z_E_same {fl : Nat → List Bool} {ca : Nat → ClassId} {wd wd' : zD} {ad : Nat → Nat} {M : zM} {i : Nat} (h1 : wd'.1 i = wd.1 i) (h2 : ∀ k, wd'.2.1 i k = wd.2.1 i k) (h3 : wd'.2.2 i = wd.2.2 i) : z_E fl ca wd' ad M i = z_E fl ca wd ad M i := by
  have : wd'.2.1 i = wd.2.1 i := funext h2
  unfold z_E
  rw [h1, this, h3]
/-- two descriptions that say the same of every id that counts -/
theorem z_H.desc {D : va_G} {cl : List vw_C} {fl : Nat → List Bool} {ca : Nat → ClassId} {wd wd' : zD} {ad : Nat → Nat} {M : zM} {H : Heap} (h : z_H D cl fl ca wd ad M H) (h1 : ∀ i, wd'.1 i < 200 → wd'.1 i = wd.1 i ∧ (∀ k, wd'.2.1 i k = wd.2.1 i k) ∧ wd'.2.2 i = wd.2.2 i) : z_H D cl fl ca wd' ad M H := by
  intro i hi
  obtain ⟨a1, a2, a3⟩ := h1 i hi
  rw [z_E_same a1 a2 a3]
  exact h i (by rw [← a1]; exact hi)
theorem z_H.grow {D : va_G} {cl : List vw_C} {fl : Nat → List Bool} {ca : Nat → ClassId} {wd : zD} {ad : Nat → Nat} {M : zM} {H H1 : Heap} {i c : Nat} (h : z_H D cl fl ca wd ad M H) (o1 : ∀ q, q < H.size → H1[q]? = H[q]?) (he : va_at D cl (ad i, z_E fl ca (zdk wd i c) ad M i) H1) : z_H D cl fl ca (zdk wd i c) ad M H1 := by
  intro j hj
  by_cases e : j = i
  · subst e; exact he
  · have h1 : (zdk wd i c).1 j = wd.1 j := if_neg e
    rw [z_E_same (wd := wd) h1 (fun _ => rfl) rfl]
    rw [h1] at hj
    exact (h j hj).kept (o1 _ (h.lt hj))
theorem z_H.putr {D : va_G} {cl : List vw_C} {fl : Nat → List Bool} {ca : Nat → ClassId} {wd : zD} {ad : Nat → Nat} {M : zM} {H H1 : Heap} {i k j : Nat} (h : z_H D cl fl ca wd ad M H) (hI : ∀ a, wd.1 a < 200 → ad a = ad i → a = i) (he : va_at D cl (ad i, z_E fl ca (zdr wd i k j) ad M i) H1) (oq : ∀ q : Nat, q ≠ ad i → H1[q]? = H[q]?) : z_H D cl fl ca (zdr wd i k j) ad M H1 := by
  intro a ha
  by_cases e : a = i
  · subst e; exact he
  · have h1 : wd.1 a < 200 := ha
    rw [z_E_same (wd := wd) (wd' := zdr wd i k j) rfl (fun q => if_neg (fun z => e z.1)) rfl]
    exact (h a h1).kept (oq _ (fun z => e (hI a h1 z)))
section ZW4
variable {p : Program} {l : Launch} {e : Env} {R : Room} {s : State} {m : MethodId} {args : Array Value} {below : List Frame} {meth : Method} {c : Code} {H : Heap} {locs : List Loc} {cells slots : Nat} {Q : State → Prop}
variable {cc : ByteArray} {pc : Nat} {ls : Array Slot} {rest : List Value} {D : va_G} {cl : List vw_C} {A : Nat → Prop} {tys : List (ClassId × FieldType)} {H0 : Heap}
variable {fl : Nat → List Bool} {ca : Nat → ClassId} {wd : zD} {ad : Nat → Nat} {M : zM}
theorem z_new {c0 : Code} (hexec : p.tables.exec = Jvm.exec) (hb : c0.code = cc) {own C : String} {T : u_T} {N ci index i : Nat} {Ts : List Cond} (hts : ∀ w ∈ Ts, w.before args s = true) (hin : ∀ w ∈ u_ws C T N, w ∈ Ts) (ty : Nat → FieldType) (hty : ∀ k, k < N → parseFieldDescriptor (T k).2.2.1 = some (ty k)) (hown : s.vm.findClass own = some m.cls) (hcl : (Cond.classLink own index C).before args s = true) (hinst : (Cond.instantiable C N).before args s = true) (hini : (Cond.initialized C).before args s = true)
    (hK : va_K D cl tys s) (hH : z_H D cl fl ca wd ad M H) (hS : va_S A H0 H locs) (hA : ∀ q, H0.size ≤ q → A q) (hc : cl[ci]? = some (C, T, N)) (hci : ci < 100) (ha : ad i = H.size) (hr : ∀ k, wd.2.1 i k = none) (hM : ∀ k, M i k = 0) (hfs : ∀ j, j < N → defaultValue (ty j) = vp_V (z_fl (fun _ => none) (fun _ => 0) (fl ci) 0) j) (hcells : cells + 1 ≤ R.cells) (hslots : slots + N ≤ R.slots) (hdg : decode cc pc = .ok (.new index, 3))
    (kk : ∀ H1 : Heap, z_H D cl fl ca (zdk wd i ci) ad M H1 → H1.size = H.size + 1 → (∀ q, q < H.size → H1[q]? = H[q]?) → va_S A H0 H1 locs → W p l e R s m args below meth c0 H1 locs (cells + 1) (slots + N) Q (F0 m (pc + 3) ls (.ref (ad i) :: rest))) : W p l e R s m args below meth c0 H locs cells slots Q (F0 m pc ls rest) := by
  have hKn := hK.1 ci _ hc
  refine W.newcK hexec hb hown hcl hinst hini rfl hdg hcells hslots hKn.2.1 rfl fun H1 kC hkC e1 z1 o1 => ?_
  rw [← ha]
  refine kk H1 (hH.grow o1 ?_) z1 o1 ⟨Nat.le_trans hS.1 (by omega), fun x h1 h2 => (o1 x (Nat.lt_of_lt_of_le h1 hS.1)).trans (hS.2.1 x h1 h2), hS.2.2⟩
  have hk : (zdk wd i ci).1 i = ci := if_pos rfl
  rw [z_E_o hk hci]
  have e2 : (fun k => ((zdk wd i ci).2.1 i k).map ad) = fun _ => none := by
    funext k
    show (wd.2.1 i k).map ad = none
    rw [hr k]
    rfl
  have e3 : M i = fun _ => 0 := funext hM
  rw [e2, e3]
  rw [← ha] at e1
  exact ⟨_, hc, (u_born ty hts hin hKn hkC e1 hty).to hfs⟩
theorem z_newq (hexec : p.tables.exec = Jvm.exec) (hb : c.code = cc) {own C : String} {index i kd t0 : Nat} (hown : s.vm.findClass own = some m.cls) (hclink : (Cond.classLink own index C).before args s = true) (hover : va_AO C s) (hK : va_K D cl tys s) (ht : tys[t0]? = some (ca kd, .object C)) (hH : z_H D cl fl ca wd ad M H) (hS : va_S A H0 H locs) (hA : ∀ q, H0.size ≤ q → A q)
    (hk1 : 100 < kd) (ha : ad i = H.size) (hr : ∀ k, wd.2.1 i k = none) {n : Int32} {N' : Nat} (hlen : wd.2.2 i = N') (hn : ¬ n < 0) (hN : n.toNatClampNeg = N') (hbytes : N' * 4 ≤ 536870912) (hcells : cells + 1 ≤ R.cells) (hslots : slots + N' ≤ R.slots) (hdg : decode cc pc = .ok (.anewarray index, 3))
    (kk : ∀ H1 : Heap, z_H D cl fl ca (zdk wd i kd) ad M H1 → H1.size = H.size + 1 → (∀ q, q < H.size → H1[q]? = H[q]?) → va_S A H0 H1 locs → W p l e R s m args below meth c H1 locs (cells + 1) (slots + N') Q (F0 m (pc + 3) ls (.ref (ad i) :: rest))) : W p l e R s m args below meth c H locs cells slots Q (F0 m pc ls (.int n :: rest)) := by
  subst hN
  refine W.anew hexec hb hown hclink (va_AO.use hover) rfl hdg rfl hn hbytes hcells hslots fun cA kA comp f1 f2 f3 f4 => ?_
  obtain ⟨_, _, -, -, -, g4⟩ := (hK.2 t0 _ ht).2
  have ecA : cA = ca kd := Option.some.inj (f1.symm.trans g4)
  subst ecA
  generalize hH1 : H.push ({ cls := ca kd, slots := Array.replicate n.toNatClampNeg .null, vm := .none } : Cell) = H1
  have z1 : H1.size = H.size + 1 := by rw [← hH1, Array.size_push]
  have e1 : H1[H.size]? = some (arrV (ca kd) n.toNatClampNeg (fun _ => .null)) := by rw [← hH1, Array.getElem?_push_size, ← arrV_new]
  have o1 : ∀ q : Nat, q < H.size → H1[q]? = H[q]? := fun q hq => by rw [← hH1, Array.getElem?_push, if_neg (Nat.ne_of_lt hq)]
  rw [← ha]
  refine kk H1 (hH.grow o1 ?_) z1 o1 ⟨Nat.le_trans hS.1 (by omega), fun x h1 h2 => (o1 x (Nat.lt_of_lt_of_le h1 hS.1)).trans (hS.2.1 x h1 h2), hS.2.2⟩
  have hk : (zdk wd i kd).1 i = kd := if_pos rfl
  rw [z_E_q hk hk1]
  have e2 : (fun k => ((zdk wd i kd).2.1 i k).map ad) = fun _ => none := by
    funext k
    show (wd.2.1 i k).map ad = none
    rw [hr k]
    rfl
  rw [e2]
  show H1[ad i]? = some (vp_cell _ _)
  rw [vp_cell_q, ha, show (zdk wd i kd).2.2 i = n.toNatClampNeg from hlen]
  exact e1
theorem z_newi (hexec : p.tables.exec = Jvm.exec) (hb : c.code = cc) {i t0 : Nat} (harr : (Cond.arrayClass .int).before args s = true) (hK : va_K D cl tys s) (ht : tys[t0]? = some (ca 100, .int)) (hH : z_H D cl fl ca wd ad M H) (hS : va_S A H0 H locs) (hA : ∀ q, H0.size ≤ q → A q)
    (ha : ad i = H.size) (hM : ∀ k, M i k = 0) {n : Int32} {N' : Nat} (hlen : wd.2.2 i = N') (hn : ¬ n < 0) (hN : n.toNatClampNeg = N') (hbytes : N' * 4 ≤ 536870912) (hcells : cells + 1 ≤ R.cells) (hslots : slots + N' ≤ R.slots) (hdg : decode cc pc = .ok (.newarray .int, 2))
    (kk : ∀ H1 : Heap, z_H D cl fl ca (zdk wd i 100) ad M H1 → H1.size = H.size + 1 → (∀ q, q < H.size → H1[q]? = H[q]?) → va_S A H0 H1 locs → W p l e R s m args below meth c H1 locs (cells + 1) (slots + N') Q (F0 m (pc + 2) ls (.ref (ad i) :: rest))) : W p l e R s m args below meth c H locs cells slots Q (F0 m pc ls (.int n :: rest)) := by
  refine va_newaK (atype := .int) hexec hb harr rfl hdg rfl hn hN hbytes hcells hslots rfl fun H1 cA e1 z1 o1 hAr hNm => ?_
  have g4 : s.vm.findClass ("[" ++ FieldType.int.toString) = some (ca 100) := (hK.2 t0 _ ht).2
  have ecA : cA = ca 100 := Option.some.inj (hNm.symm.trans g4)
  subst ecA
  rw [← ha]
  refine kk H1 (hH.grow o1 ?_) z1 o1 ⟨Nat.le_trans hS.1 (by omega), fun x h1 h2 => (o1 x (Nat.lt_of_lt_of_le h1 hS.1)).trans (hS.2.1 x h1 h2), hS.2.2⟩
  have hk : (zdk wd i 100).1 i = 100 := if_pos rfl
  rw [z_E_a hk]
  show H1[ad i]? = some (vp_cell _ _)
  rw [vp_cell_i, ha, show (zdk wd i 100).2.2 i = N' from hlen, e1]
  congr 2
  funext j
  rw [hM j]
  rfl
theorem z_prF (hexec : p.tables.exec = Jvm.exec) (hb : c.code = cc) {own ref C : String} {T : u_T} {N ci index i k j : Nat} {Ts : List Cond} (hts : ∀ w ∈ Ts, w.before args s = true) (hin : ∀ w ∈ u_ws C T N, w ∈ Ts) (ty0 : Nat → FieldType) (hty : ∀ k, k < N → parseFieldDescriptor (T k).2.2.1 = some (ty0 k)) (hnm : ∀ a, a < N → ∀ b, b < N → a ≠ b → (T a).2.1 ≠ (T b).2.1) (hown : s.vm.findClass own = some m.cls) (hK : va_K D cl tys s) (hH : z_H D cl fl ca wd ad M H) (hI : ∀ a, wd.1 a < 200 → ad a = ad i → a = i) (hS0 : va_S A H0 H locs) (hA : A (ad i)) (hi : wd.1 i = ci) (hci : ci < 100) (hc : cl[ci]? = some (C, T, N)) (hk : k < N) (hf : (fl ci)[k]? = some true) (hlink : (Cond.fieldLink own index ref (T k).2.1 (T k).2.2.1).before args s = true) (hsame : ∀ x, s.fieldFound? (T k).1 (T k).2.1 (T k).2.2.1 = some x → s.fieldFound? ref (T k).2.1 (T k).2.2.1 = some x) (hfin : (T k).2.2.2 = true) (hin2 : meth.name = "<init>") (hdecl : (T k).1 = own) {ty : FieldType} (hd : parseFieldDescriptor (T k).2.2.1 = some ty) (hn : narrow ty (.ref (ad j)) = .ref (ad j)) (hfit : fits ty (.ref (ad j)) = true)
    (hdg : decode cc pc = .ok (.putfield index, 3)) (kk : ∀ (H1 : Heap) (locs1 : List Loc), z_H D cl fl ca (zdr wd i k j) ad M H1 → H1.size = H.size → (∀ q : Nat, q ≠ ad i → H1[q]? = H[q]?) → va_S A H0 H1 locs1 → W p l e R s m args below meth c H1 locs1 cells slots Q (F0 m (pc + 3) ls rest)) : W p l e R s m args below meth c H locs cells slots Q (F0 m pc ls (.ref (ad j) :: .ref (ad i) :: rest)) := by
  have hap := va_apart (own := own) hts hin ty0 hty hnm hK hc
  have hv : wd.1 i < 200 := by omega
  have h0 := hH i hv
  rw [z_E_o hi hci] at h0
  obtain ⟨r, h1, cell, q1, q2, q3, q4⟩ := h0
  have hr : r = (C, T, N) := Option.some.inj (h1.symm.trans hc)
  subst hr
  obtain ⟨hS, hfc, kC, hkC, hkind⟩ := hK.1 ci _ hc
  obtain ⟨cf, kf, fi, f, hi', hsl⟩ := hS k hk
  have hlay := hts _ (hin _ (u_in_lay hk))
  unfold u_lay at hlay
  rw [if_pos hfin] at hlay
  have hst := (u_facts hfc hkC (u_lays hts hin hk) hi').1
  have hcf : m.cls = cf := by
    obtain ⟨_, _, c', _, _, _, -, -, hf', -, -, -, hown2, -⟩ := Cond.laysFinal_spec hlay
    have e1 : c' = cf := by have := hi'.symm.trans hf'; simp at this; exact this.1.symm
    rw [hdecl] at hown2
    rw [← e1]; exact Option.some.inj (hown.symm.trans hown2)
  have h6 := u_fits hfc hkC hkind (Or.inr hlay) hi' hd hn hfit
  refine W.putFinK hexec hb hown hlink (hsame _ hi') hst hcf hin2 (by rw [q2]; exact h6) q1 q3 (by rw [hsl]; exact k2_hasslot (q4 k hk)) rfl rfl hdg fun H' e1 e2 e3 => ?_
  rw [hsl] at e1 ⊢
  refine kk H' _ (hH.putr hI ?_ e3) e2 e3 (hS0.put e2 e3 hA)
  rw [z_E_o (wd := zdr wd i k j) hi hci]
  have e4 : (fun q => ((zdr wd i k j).2.1 i q).map ad) = fun q => if q = 0 + k then some (ad j) else (fun q => (wd.2.1 i q).map ad) q := by
    funext q
    show (if i = i ∧ q = k then some j else wd.2.1 i q).map ad = _
    by_cases hq : q = k
    · rw [if_pos ⟨rfl, hq⟩, if_pos (by omega)]; rfl
    · rw [if_neg (fun z => hq z.2), if_neg (by omega)]
  rw [e4, z_fl_setr _ _ _ _ _ _ hf]
  have hl : k < (z_fl (fun k => (wd.2.1 i k).map ad) (M i) (fl ci) 0).length := by
    rw [z_fl_len]
    exact (List.getElem?_eq_some_iff.mp hf).1
  exact ⟨_, hc, t_OB.to (V := updV (vp_V (z_fl (fun k => (wd.2.1 i k).map ad) (M i) (fl ci) 0)) k (.ref (ad j))) ⟨_, e1, q2, q3, t_set q4 hap hk (.ref (ad j))⟩ (fun j' _ => vp_updV_set hl (.ref (ad j)) j')⟩
theorem z_ast (hexec : p.tables.exec = Jvm.exec) (hb : c.code = cc) (hK : va_K D cl tys s) (hH : z_H D cl fl ca wd ad M H) {i j t0 kd ci : Nat} {r : vw_C} (hI : ∀ a, wd.1 a < 200 → ad a = ad i → a = i) (hS : va_S A H0 H locs) (hA : A (ad i)) (hi : wd.1 i = kd) (hk1 : 100 < kd) (hk2 : kd < 200) (ht : tys[t0]? = some (ca kd, .object r.1)) (hj : wd.1 j = ci) (hci : ci < 100) (hc : cl[ci]? = some r) {x : Int32} (hin : vp_in x (wd.2.2 i)) (hdg : decode cc pc = .ok (.aastore, 1))
    (kk : ∀ (H1 : Heap) (locs1 : List Loc), z_H D cl fl ca (zdr wd i x.toNatClampNeg j) ad M H1 → H1.size = H.size → (∀ q : Nat, q ≠ ad i → H1[q]? = H[q]?) → va_S A H0 H1 locs1 → W p l e R s m args below meth c H1 locs1 cells slots Q (F0 m (pc + 1) ls rest)) : W p l e R s m args below meth c H locs cells slots Q (F0 m pc ls (.ref (ad j) :: .int x :: .ref (ad i) :: rest)) := by
  have hlt : x.toNatClampNeg < wd.2.2 i := Nat.not_le.mp fun q => hin (Or.inr q)
  have h0 : ¬ x < 0 := fun q => hin (Or.inl q)
  have hPi := hH i (by omega)
  rw [z_E_q hi hk1] at hPi
  have hPj := hH j (by omega)
  rw [z_E_o hj hci] at hPj
  obtain ⟨r', hr', cellV, g1, g2, g3, -⟩ := hPj
  have hcls := (hK.1 ci r hc).2
  obtain ⟨kA, comp, k1, k2, k3, -⟩ := (hK.2 t0 _ ht).2
  have hcomp : comp = D.1 ci := Option.some.inj (k3.symm.trans hcls.1)
  subst hcomp
  obtain ⟨kC, hkC, -⟩ := hcls.2
  refine W.aast hexec hb hPi (fun q h => by cases h) (fun h => by cases h) k1 k2 rfl hkC ⟨h0, by show _ < (arrV _ _ _).slots.size; rw [arrV_size]; exact hlt⟩ g1 (fun q h => by rw [g3] at h; cases h) (by rw [g2]; exact hkC) (by rw [g2]; exact va_assign hcls) rfl rfl hdg fun H1 e z oq => ?_
  refine kk H1 _ (hH.putr hI ?_ oq) z oq (hS.put z oq hA)
  rw [z_E_q (wd := zdr wd i x.toNatClampNeg j) hi hk1]
  show H1[ad i]? = some (vp_cell _ _)
  rw [e]
  rw [vp_cell_q, vp_cell_q, arrV_store]
  congr 2
  funext q
  show _ = va_rf ((if i = i ∧ q = x.toNatClampNeg then some j else wd.2.1 i q).map ad)
  by_cases hq : q = x.toNatClampNeg
  · subst hq
    rw [if_pos ⟨rfl, rfl⟩]
    simp [updV, va_rf]
  · rw [if_neg (fun z => hq z.2)]
    simp [updV, hq]
end ZW4
