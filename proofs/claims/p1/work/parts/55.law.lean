/-! ===== the law: rows, and the class's answers on the fresh field ===== -/
section ZL9
variable {p : Program} {l : Launch} {e : Env} {R : Room} {s : State} {m : MethodId} {args : Array Value} {below : List Frame} {meth : Method} {H : Heap} {locs : List Loc} {cells slots : Nat} {Q : State → Prop}
variable {cc : ByteArray} {pc : Nat} {ls : Array Slot} {rest : List Value} {D : va_G} {cl : List vw_C} {A : Nat → Prop} {tys : List (ClassId × FieldType)} {H0 : Heap}
theorem yo_new {c0 : Code} (hexec : p.tables.exec = Jvm.exec) (hb : c0.code = cc) {own C : String} {T : u_T} {N ci index a : Nat} {Ts : List Cond} (hts : ∀ w ∈ Ts, w.before args s = true) (hin : ∀ w ∈ u_ws C T N, w ∈ Ts) (ty : Nat → FieldType) (hty : ∀ k, k < N → parseFieldDescriptor (T k).2.2.1 = some (ty k)) (hown : s.vm.findClass own = some m.cls) (hcl : (Cond.classLink own index C).before args s = true) (hinst : (Cond.instantiable C N).before args s = true) (hini : (Cond.initialized C).before args s = true)
    (hK : va_K D cl tys s) (hS : va_S A H0 H locs) (hc : cl[ci]? = some (C, T, N)) (ha : a = H.size) (fs : List Value) (hfs : ∀ j, j < N → defaultValue (ty j) = vp_V fs j) (hcells : cells + 1 ≤ R.cells) (hslots : slots + N ≤ R.slots) (hdg : decode cc pc = .ok (.new index, 3))
    (kk : ∀ H1 : Heap, va_at D cl (a, .inr (ci, fs)) H1 → H1.size = H.size + 1 → (∀ q, q < H.size → H1[q]? = H[q]?) → va_S A H0 H1 locs → W p l e R s m args below meth c0 H1 locs (cells + 1) (slots + N) Q (F0 m (pc + 3) ls (.ref a :: rest))) : W p l e R s m args below meth c0 H locs cells slots Q (F0 m pc ls rest) := by
  have hKn := hK.1 ci _ hc
  refine W.newcK hexec hb hown hcl hinst hini rfl hdg hcells hslots hKn.2.1 rfl fun H1 kC hkC e1 z1 o1 => ?_
  rw [← ha]
  rw [← ha] at e1
  exact kk H1 ⟨_, hc, (u_born ty hts hin hKn hkC e1 hty).to hfs⟩ z1 o1 ⟨Nat.le_trans hS.1 (by omega), fun x h1 h2 => (o1 x (Nat.lt_of_lt_of_le h1 hS.1)).trans (hS.2.1 x h1 h2), hS.2.2⟩
theorem yo_newl {c0 : Code} (hexec : p.tables.exec = Jvm.exec) (hb : c0.code = cc) {ca : Nat → ClassId} {t0 a : Nat} (harr : (Cond.arrayClass .long).before args s = true) (hK : va_K D cl tys s) (ht : tys[t0]? = some (ca 106, .long)) (hS : va_S A H0 H locs) (ha : a = H.size) {n : Int32} {N' : Nat} (hn : ¬ n < 0) (hN : n.toNatClampNeg = N') (hbytes : N' * 8 ≤ 536870912) (hcells : cells + 1 ≤ R.cells) (hslots : slots + N' ≤ R.slots) (hdg : decode cc pc = .ok (.newarray .long, 2))
    (kk : ∀ H1 : Heap, va_at D cl (a, .inl (ca 106, N', .inr (.inl (fun _ => 0)))) H1 → H1.size = H.size + 1 → (∀ q, q < H.size → H1[q]? = H[q]?) → va_S A H0 H1 locs → W p l e R s m args below meth c0 H1 locs (cells + 1) (slots + N') Q (F0 m (pc + 2) ls (.ref a :: rest))) : W p l e R s m args below meth c0 H locs cells slots Q (F0 m pc ls (.int n :: rest)) := by
  refine va_newaK (atype := .long) hexec hb harr rfl hdg rfl hn hN hbytes hcells hslots rfl fun H1 cA e1 z1 o1 hAr hNm => ?_
  have g4 : s.vm.findClass ("[" ++ FieldType.long.toString) = some (ca 106) := (hK.2 t0 _ ht).2
  have ecA : cA = ca 106 := Option.some.inj (hNm.symm.trans g4)
  subst ecA
  rw [← ha]
  refine kk H1 ?_ z1 o1 ⟨Nat.le_trans hS.1 (by omega), fun x h1 h2 => (o1 x (Nat.lt_of_lt_of_le h1 hS.1)).trans (hS.2.1 x h1 h2), hS.2.2⟩
  show H1[a]? = some (vp_cell _ _)
  rw [vp_cell_l, ha, e1]
  rfl
end ZL9
section ZL8
variable {p : Program} {l : Launch} {e : Env} {R : Room} {s : State} {m : MethodId} {args : Array Value} {below : List Frame} {meth : Method} {c : Code} {H : Heap} {locs : List Loc} {cells slots : Nat} {Q : State → Prop}
variable {cc : ByteArray} {pc nL : Nat} {ls : Array Slot} {rest st0 : List Value} {D : va_G} {cl : List vw_C} {A0 A1 : Nat → Prop} {tys : List (ClassId × FieldType)} {nw : List Cond}
variable {y : MethodName} {bytes : ByteArray} {maxL n index mc ms : Nat} {ret : Option FieldType} {ws Ts : List Cond} {rm : Room} {own : String} {av : List Value} {B B' : Heap → Prop} {hh : List (Nat × Nat × Nat × Nat)} {k : Int32}
/-- the call of a wrapper that goes through -/
theorem z_cW {H0 : Heap} (S : CallFix p m c cc nL s args Ts own) (hM : Met l y ws rm (z_Pc D cl tys nw av B) (z_Qi k B' A1) mc ms A1) (cw : vx_CSW R s args own index y bytes maxL ret hh ws rm mc ms n)
    (hB : B H) (hK : va_K D cl tys s) (hN : z_N nw s) (hnw : nw.all z_nest = true) (hn : av.length = n) (hsize : ls.size = nL) (hst : st0 = av.reverse ++ rest) (hW : (rest.map fun v => v.category).sum ≤ 8) (hdg : decode cc pc = .ok (.invokestatic index, 3)) (hf : cells + mc ≤ R.cells ∧ slots + ms ≤ R.slots) (hS : va_S A0 H0 H locs) (hA : ∀ q, A1 q → A0 q)
    (kk : ∀ (H1 : Heap) (locs1 : List Loc), B' H1 → (∀ q : Nat, q < H.size → ¬ A1 q → H1[q]? = H[q]?) → H.size ≤ H1.size → va_S A0 H0 H1 locs1 → W p l e R s m args below meth c H1 locs1 (cells + mc) (slots + ms) Q (F0 m (pc + 3) ls (.int k :: rest))) : W p l e R s m args below meth c H locs cells slots Q (F0 m pc ls st0) := by
  refine va_calli (vx_runSW S hM cw ⟨z_blind hnw, fun U hU hW => ⟨rfl, by rw [hU]; exact hB, va_K.moved hW.alike hK, hN.warm hnw hW⟩⟩ rfl hn hsize hst (lv_room hW) hdg hf) hS (fun q _ h => hA q h) hA (fun r u t H1 locs1 ht hvm hw hB1 hz1 hk1 hS1 => ?_)
  subst hw
  have hB1 : B' t.heap := hB1
  rw [ht] at hB1
  exact kk H1 locs1 hB1 hk1 hz1 hS1
/-- the call of a wrapper that catches -/
theorem z_cWx (S : CallFix p m c cc nL s args Ts own) (hM : Met l y ws rm (z_P9 D cl tys nw av zFa B) (z_Qi k B' zFa) mc ms zFa) (cw : vx_CSW R s args own index y bytes maxL ret hh ws rm mc ms n)
    (hB : B H) (hK : va_K D cl tys s) (hN : z_N nw s) (hE : zEx9 A0 s) (hnw : nw.all z_nest = true) (hn : av.length = n) (hsize : ls.size = nL) (hst : st0 = av.reverse ++ rest) (hW : (rest.map fun v => v.category).sum ≤ 8) (hdg : decode cc pc = .ok (.invokestatic index, 3)) (hf : cells + mc ≤ R.cells ∧ slots + ms ≤ R.slots) (hS : va_S A0 s.heap H locs)
    (kk : ∀ (H1 : Heap) (locs1 : List Loc), (∀ q : Nat, q < H.size → H1[q]? = H[q]?) → H.size ≤ H1.size → va_S A0 s.heap H1 locs1 → W p l e R s m args below meth c H1 locs1 (cells + mc) (slots + ms) Q (F0 m (pc + 3) ls (.int k :: rest))) : W p l e R s m args below meth c H locs cells slots Q (F0 m pc ls st0) := by
  refine va_calli (vx_runSW S hM cw ⟨z_blind9 hnw, fun U hU hW => ⟨rfl, by rw [hU]; exact hB, va_K.moved hW.alike hK, hN.warm hnw hW, hE.warm (fun _ h => h.elim) (by rw [hU]; exact hS.2.1) hW⟩⟩ rfl hn hsize hst (lv_room hW) hdg hf) hS (fun q _ h => h.elim) (fun q h => h.elim) (fun r u t H1 locs1 ht hvm hw hB1 hz1 hk1 hS1 => ?_)
  subst hw
  exact kk H1 locs1 (fun q hq => hk1 q hq (fun h => h)) hz1 hS1
end ZL8
theorem lg_self (x : Int64) : lg_cmp x x = 0 := by
  have h1 : ¬ x > x := fun h => by
    have h2 : x < x := h
    rw [Int64.lt_iff_toInt_lt] at h2
    omega
  unfold lg_cmp
  rw [if_neg h1, if_pos rfl]
theorem yad_lt {a i : Nat} (h : yd.1 i < 200) : yad a (a + 1) i < a + 41 := by
  have h1 := yk_out h
  unfold yad
  by_cases c : i = 0
  · rw [if_pos c]; omega
  · rw [if_neg c]; omega
theorem zMi_far {i k : Nat} (h : 20 ≤ i) : zMi i k = 0 := by
  unfold zMi zMp
  simp only [zu]
  rw [if_neg (by omega), if_neg (by omega), if_neg (by omega), if_neg (by omega)]
  rfl
theorem zOkMi : z_Ok zMi := by
  refine ⟨⟨⟨0, by decide, by decide, rfl⟩, ⟨0, by decide, by decide, rfl⟩, ⟨0, by decide, by decide, rfl⟩, ⟨0, by decide, by decide, rfl⟩⟩, fun f h => ?_, fun f h => ?_, fun f h => ?_, fun f h => ?_, fun f h => ?_, fun f h => Or.inl ?_⟩
  · exact ⟨0, by decide, by decide, zMi_far (by omega)⟩
  · exact ⟨0, by decide, by decide, zMi_far (by omega)⟩
  · exact ⟨0, by decide, by decide, zMi_far (by omega)⟩
  · exact ⟨0, by decide, by decide, zMi_far (by omega)⟩
  · exact ⟨0, by decide, by decide, zMi_far (by omega)⟩
  · exact zMi_far (by omega)
theorem vX_block (a0 a1 a2 a3 a4 : Int32) : rX8_block zMi zMi a0 a1 a2 a3 a4 = 0 := rfl
theorem vX_turbine (a : Int32) : rX8_turbine zMi zMi a = 20 := rfl
theorem vX_town (a : Int32) : rX8_town zMi zMi a = 0 := rfl
theorem vX_run {K : Nat} (h : K ≤ 30) : rX8_run zMi zMi (nI K) = 0 := by
  have e := (zL_power 0 K (by omega)).1
  rw [zL_0] at e
  unfold rX8_run
  exact e
theorem vX_pond (a : Int32) : rX8_pond zMi zMi a = 0 := by
  rw [← zL_0]
  exact zL_pond _ a
theorem vX_ofOwner {a b : Int32} (h : z_rg a 0 1) : rX8_ofOwner zMi zMi a b = (if b = 0 then 100 else 0) := by
  rw [← zL_0]
  exact zL_owner _ h
theorem vX_mass {a : Int32} (h : z_rg a 0 6) : rX8_mass zMi zMi a = 0 := by
  rw [← zL_0]
  exact zL_mass _ h
theorem vX_many {a : Int32} (h : z_rg a 0 12) : rX8_many zMi zMi a = yMany a := by
  rw [← zL_0]
  exact zL_many _ h
theorem vX_isClosed : rX8_isClosed zMi zMi = 1 := by
  rw [← zL_0]
  exact zL_closed _
theorem vX_wouldGive {K : Nat} (h : K ≤ 30) : rX8_wouldGive zMi zMi (nI K) = 0 := by
  rw [← zL_0]
  exact (zL_would 0 K (by omega)).1
theorem vX_bestValves {K : Nat} (h : K ≤ 30) : rX8_bestValves zMi zMi (nI K) = 0 := by
  rw [← zL_0]
  exact zL_best 0 K (by omega)
theorem vX_digest : rX8_digest zMi zMi = (-8640506924048327797) := by
  rw [← zL_0]
  exact zL_digest
