section ZC3
variable {p : Program} {l : Launch} {e : Env} {R : Room} {s : State} {m : MethodId} {args : Array Value} {below : List Frame} {meth : Method} {c : Code} {H : Heap} {locs : List Loc} {cells slots : Nat} {Q : State → Prop}
variable {cc : ByteArray} {pc nL : Nat} {ls : Array Slot} {rest st0 : List Value} {D : va_G} {cl : List vw_C} {A0 A1 : Nat → Prop} {tys : List (ClassId × FieldType)} {H0 : Heap} {nw : List Cond}
variable {y : MethodName} {bytes : ByteArray} {maxL n index : Nat} {ret : Option FieldType} {ws Ts : List Cond} {rm : Room} {own C host : String} {b : Addr} {As : List Value} {B B' : Heap → Prop}
abbrev z_Qd (P : UInt64 → Prop) (B : Heap → Prop) (A : Nat → Prop) : Array Value → State → Outcome → State → Prop := va_Qd (fun (r : UInt64) (_ : Unit) => P r) (fun _ t => B t.heap) A
abbrev z_Qp (P : Int32 → Prop) (B : Heap → Prop) (A : Nat → Prop) : Array Value → State → Outcome → State → Prop := va_Qi (fun (r : Int32) (_ : Unit) => P r) (fun _ t => B t.heap) A
theorem z_cVd {P : UInt64 → Prop} (S : CallFix p m c cc nL s args Ts own) (hM : Met l y ws rm (z_Pc D cl tys nw (.ref b :: As) B) (z_Qd P B' A1) 0 0 A1) (cw : CallW R s args own C index y bytes maxL ret ws rm 0 0 n)
    (hrec : ∃ cell : Cell, H[b]? = some cell ∧ cell.vm.isStatics = false ∧ s.vm.findClass C = some cell.cls) (hB : B H) (hK : va_K D cl tys s) (hN : z_N nw s) (hnw : nw.all z_nest = true) (hn : As.length = n) (hsize : ls.size = nL) (hst : st0 = As.reverse ++ .ref b :: rest) (hW : (rest.map fun v => v.category).sum ≤ 8) (hdg : decode cc pc = .ok (.invokevirtual index, 3)) (hf : cells ≤ R.cells ∧ slots ≤ R.slots) (hS : va_S A0 H0 H locs) (hA : ∀ q, A1 q → A0 q)
    (kk : ∀ (r : UInt64), P r → ∀ (H1 : Heap) (locs1 : List Loc), B' H1 → (∀ q : Nat, q < H.size → ¬ A1 q → H1[q]? = H[q]?) → H.size ≤ H1.size → va_S A0 H0 H1 locs1 → W p l e R s m args below meth c H1 locs1 cells slots Q (F0 m (pc + 3) ls (.double r :: rest))) : W p l e R s m args below meth c H locs cells slots Q (F0 m pc ls st0) := by
  refine va_calld (va_runV S hM cw ⟨z_blind hnw, hrec, fun U hU hW => ⟨rfl, by rw [hU]; exact hB, va_K.moved hW.alike hK, hN.warm hnw hW⟩⟩ rfl hn hsize hst (lv_room hW) hdg hf) hS (fun q _ h => hA q h) hA (fun r u t H1 locs1 ht hvm hw hB1 hz1 hk1 hS1 => ?_)
  rw [ht] at hB1
  exact kk r hw H1 locs1 hB1 hk1 hz1 hS1
theorem z_cSp {P : Int32 → Prop} (S : CallFix p m c cc nL s args Ts own) (hM : Met l y ws rm (z_Pc D cl tys nw As B) (z_Qp P B' A1) 0 0 A1) (cw : CallB R s args own index y bytes maxL ret ws rm 0 0 n ∧ (Cond.static y).before args s = true)
    (hB : B H) (hK : va_K D cl tys s) (hN : z_N nw s) (hnw : nw.all z_nest = true) (hn : As.length = n) (hsize : ls.size = nL) (hst : st0 = As.reverse ++ rest) (hW : (rest.map fun v => v.category).sum ≤ 8) (hdg : decode cc pc = .ok (.invokestatic index, 3)) (hf : cells ≤ R.cells ∧ slots ≤ R.slots) (hS : va_S A0 H0 H locs) (hA : ∀ q, A1 q → A0 q)
    (kk : ∀ (r : Int32), P r → ∀ (H1 : Heap) (locs1 : List Loc), B' H1 → (∀ q : Nat, q < H.size → ¬ A1 q → H1[q]? = H[q]?) → H.size ≤ H1.size → va_S A0 H0 H1 locs1 → W p l e R s m args below meth c H1 locs1 cells slots Q (F0 m (pc + 3) ls (.int r :: rest))) : W p l e R s m args below meth c H locs cells slots Q (F0 m pc ls st0) := by
  refine va_calli (va_runS S hM cw ⟨z_blind hnw, fun U hU hW => ⟨rfl, by rw [hU]; exact hB, va_K.moved hW.alike hK, hN.warm hnw hW⟩⟩ rfl hn hsize hst (lv_room hW) hdg hf) hS (fun q _ h => hA q h) hA (fun r u t H1 locs1 ht hvm hw hB1 hz1 hk1 hS1 => ?_)
  rw [ht] at hB1
  exact kk r hw H1 locs1 hB1 hk1 hz1 hS1
end ZC3
theorem zit_n2 {α : Type} (f : Nat → α → α) (a : α) : zit f 2 a = f 1 (f 0 (a)) := (zit_s f 1 a).trans (congrArg (f 1) ((zit_s f 0 a).trans (congrArg (f 0) (zit_0 f a))))
theorem zit_n4 {α : Type} (f : Nat → α → α) (a : α) : zit f 4 a = f 3 (f 2 (f 1 (f 0 (a)))) := (zit_s f 3 a).trans (congrArg (f 3) ((zit_s f 2 a).trans (congrArg (f 2) ((zit_s f 1 a).trans (congrArg (f 1) ((zit_s f 0 a).trans (congrArg (f 0) (zit_0 f a))))))))
theorem zit_n7 {α : Type} (f : Nat → α → α) (a : α) : zit f 7 a = f 6 (f 5 (f 4 (f 3 (f 2 (f 1 (f 0 (a))))))) := (zit_s f 6 a).trans (congrArg (f 6) ((zit_s f 5 a).trans (congrArg (f 5) ((zit_s f 4 a).trans (congrArg (f 4) ((zit_s f 3 a).trans (congrArg (f 3) ((zit_s f 2 a).trans (congrArg (f 2) ((zit_s f 1 a).trans (congrArg (f 1) ((zit_s f 0 a).trans (congrArg (f 0) (zit_0 f a))))))))))))))
theorem zit_n13 {α : Type} (f : Nat → α → α) (a : α) : zit f 13 a = f 12 (f 11 (f 10 (f 9 (f 8 (f 7 (f 6 (f 5 (f 4 (f 3 (f 2 (f 1 (f 0 (a))))))))))))) := (zit_s f 12 a).trans (congrArg (f 12) ((zit_s f 11 a).trans (congrArg (f 11) ((zit_s f 10 a).trans (congrArg (f 10) ((zit_s f 9 a).trans (congrArg (f 9) ((zit_s f 8 a).trans (congrArg (f 8) ((zit_s f 7 a).trans (congrArg (f 7) ((zit_s f 6 a).trans (congrArg (f 6) ((zit_s f 5 a).trans (congrArg (f 5) ((zit_s f 4 a).trans (congrArg (f 4) ((zit_s f 3 a).trans (congrArg (f 3) ((zit_s f 2 a).trans (congrArg (f 2) ((zit_s f 1 a).trans (congrArg (f 1) ((zit_s f 0 a).trans (congrArg (f 0) (zit_0 f a))))))))))))))))))))))))))
/-! ===== what the class's functions say of the empty land (n steps on) ===== -/
def zL (n : Nat) : zM := zu zMi 0 14 (nI n)
theorem zL_0 : zL 0 = zMi := zu_same rfl
theorem zL_s (n : Nat) : zu (zL n) 0 14 (nI n + 1) = zL (n + 1) := by
  unfold zL
  rw [zu_zu, nI_succ]
theorem zLv {n i k : Nat} (h : (i == 0 && k == 14) = false) : zL n i k = zMi i k := by
  have c : ¬ (i = 0 ∧ k = 14) := fun ⟨a, b⟩ => by subst a; subst b; cases h
  unfold zL
  simp only [zu, if_neg c]
theorem zLu {n i k : Nat} {v : Int32} (h : (i == 0 && k == 14) = false) (hv : zMi i k = v) : zu (zL n) i k v = zL n := zu_same ((zLv h).trans hv)
theorem zL_c10 (n : Nat) : zc10 (zL n) = 0 := rfl
theorem zL_c11 (n : Nat) : zc11 (zL n) = 0 := rfl
theorem zL_c12 (n : Nat) : zc12 (zL n) = 0 := rfl
theorem zL_c13 (n : Nat) : zc13 (zL n) = 0 := rfl
theorem zL_shareOf (n : Nat) (a : Int32) : rX3_shareOf (zL n) a = 0 := by
  unfold rX3_shareOf
  rw [zL_c10, zit_0]
theorem zL_lacked (n : Nat) : rX3_lackedEver (zL n) = 0 := by
  unfold rX3_lackedEver
  rw [zL_c13, zit_0]
theorem zL_inBlocks (n : Nat) (a : Int32) : rX3_inBlocks (zL n) a = 0 := by
  unfold rX3_inBlocks
  rw [zL_c10, zit_0]
theorem zL_light (n : Nat) : rX3_light (zL n) = 0 := by
  unfold rX3_light
  rw [zit_n4]
  rfl
theorem zL_drive (n : Nat) : fX3_drive (zL n) 0 = zL n := by
  unfold fX3_drive
  simp (disch := decide +kernel) only [zLv, zLu]
  rw [if_pos (by decide +kernel)]
theorem zL_town (n : Nat) : fX3_warmTheTown (zL n) = zL n := by
  unfold fX3_warmTheTown
  simp (disch := decide +kernel) only [zLv, zLu]
theorem zL_spill (n : Nat) : fX3_spill (zL n) = zL n := by
  unfold fX3_spill fX3_drain fX6_remove fX6_add rX6_shareOf
  simp (disch := decide +kernel) only [zLv, zLu]
theorem zL_so (n : Nat) : fX3_shareOut (zL n) = zL n := by
  unfold fX3_shareOut
  simp only [zL_shareOf]
  simp (disch := decide +kernel) only [zLv, zLu]
theorem zL_pay (n : Nat) : fX3_payForLacks (zL n) = zL n := by
  unfold fX3_payForLacks
  rw [zL_c13, zit_0]
theorem zL_step (n : Nat) : fX3_step (zL n) = zL (n + 1) := by
  have h0 : zu (zL n) 0 14 (zL n 0 14 + 1) = zL (n + 1) := zL_s n
  unfold fX3_step
  simp only [zL_c11, zL_c12, zL_c13, zit_0, h0, zL_drive, zL_town, zL_spill]
  rw [zu_same (show zL (n + 1) 9 _ = 0 from rfl), zL_so, zL_pay]
theorem zL_runs (n : Nat) : ∀ K : Nat, zit bX8_powerIn_10 K (zL n) = zL (n + K)
  | 0 => zit_0 _ _
  | K + 1 => by
    rw [zit_s, zL_runs n K]
    exact zL_step (n + K)
theorem zL_power (n K : Nat) (hK : K < 2 ^ 31) : rX8_powerIn (zL n) (nI K) = 0 ∧ fX8_powerIn (zL n) (nI K) = zL (n + K) := by
  have e : (nI K).toNatClampNeg = K := nI_clamp hK
  constructor
  · unfold rX8_powerIn
    simp only [e, zL_runs]
    simp (disch := decide +kernel) only [zLv]
    decide +kernel
  · unfold fX8_powerIn
    simp only [e, zL_runs]
theorem zL_copy (n : Nat) : fX3_copyFrom (zL n) (zL 0) = zL 0 := by
  have h := (((((((((((((((z_cq.it (N := zL 0) (f := bX3_copyFrom_2 (zL 0)) cq_0 8).c (z_cq.it (f := bX3_copyFrom_31 (zL 0)) cq_2 12)).c (z_cq.it (f := bX3_copyFrom_60 (zL 0)) cq_7 6)).c (z_cq.it (f := bX3_copyFrom_89 (zL 0)) cq_5 3)).c (cq_6 5)).c cq_4).c cq_1).c (z_cq.row 8 2)).c (z_cq.row 9 4)).c (z_cq.u 0 10)).c (z_cq.u 0 11)).c (z_cq.u 0 12)).c (z_cq.u 0 13)).c (z_cq.u 0 14)))
  funext a q
  by_cases c : a = 0 ∧ q = 14
  · exact (h (zL n) a q).2 (Or.inr c)
  · rcases (h (zL n) a q).1 with h1 | h1
    · exact h1
    · refine h1.trans ?_
      unfold zL
      simp only [zu, if_neg c]
theorem zL_turn (n : Nat) (a b : Int32) : fX3_turnAll (zL n) a b = zL n := by
  unfold fX3_turnAll
  rw [zL_c12, zit_0]
theorem zL_would (n K : Nat) (hK : K < 2 ^ 31) : rX8_wouldGive (zL 0) (zL n) (nI K) = 0 ∧ gX8_wouldGive (zL 0) (zL n) (nI K) = zL K := by
  have e := zL_power 0 K hK
  rw [Nat.zero_add] at e
  constructor
  · unfold rX8_wouldGive
    simp only [zL_copy, e.1]
  · unfold gX8_wouldGive
    simp only [zL_copy, e.2]
theorem zL_b33 (n K k : Nat) (hK : K < 2 ^ 31) (i3 : Int32) : bX8_bestValves_33 (zL 0) (nI K) 0 i3 k (zL n, 0, 0) = (zL K, 0, 0) := by
  have e := zL_power 0 K hK
  rw [Nat.zero_add] at e
  unfold bX8_bestValves_33
  simp only [zL_copy, zL_turn, e.1, e.2, zL_lacked]
  rfl
theorem zL_b33a (n K : Nat) (hK : K < 2 ^ 31) : bX8_bestValves_33 (zL 0) (nI K) 0 (nI (3 * 0)) 0 (zL n, (-1), 0) = (zL K, 0, 0) := by
  have e := zL_power 0 K hK
  rw [Nat.zero_add] at e
  unfold bX8_bestValves_33
  simp only [zL_copy, zL_turn, e.1, e.2, zL_lacked]
  rfl
theorem zL_b23 (n K k : Nat) (hK : K < 2 ^ 31) : bX8_bestValves_23 (zL 0) (nI K) 0 k (zL n, 0, 0) = (zL K, 0, 0) := by
  unfold bX8_bestValves_23
  simp only [zit_n4, zL_b33 _ _ _ hK]
theorem zL_b23a (n K : Nat) (hK : K < 2 ^ 31) : bX8_bestValves_23 (zL 0) (nI K) 0 0 (zL n, (-1), 0) = (zL K, 0, 0) := by
  unfold bX8_bestValves_23
  simp only [zit_n4, zL_b33a _ _ hK, zL_b33 _ _ _ hK]
theorem zL_best (n K : Nat) (hK : K < 2 ^ 31) : rX8_bestValves (zL 0) (zL n) (nI K) = 0 := by
  unfold rX8_bestValves
  simp only [zL_lacked, zit_n4, zL_b23a _ _ hK, zL_b23 _ _ _ hK]
theorem zL_many (N : zM) {a : Int32} (h : z_rg a 0 12) : rX8_many (zL 0) N a = yMany a := by
  unfold rX8_many
  simp only [zL_light, zL_lacked]
  obtain ⟨w, h1, h2, h3⟩ := z_ix_rg h (by decide) (by decide)
  have h1 : w < 13 := h1
  subst h3
  clear h h2
  rcases (show w = 0 ∨ w = 1 ∨ w = 2 ∨ w = 3 ∨ w = 4 ∨ w = 5 ∨ w = 6 ∨ w = 7 ∨ w = 8 ∨ w = 9 ∨ w = 10 ∨ w = 11 ∨ w = 12 by omega) with e | e | e | e | e | e | e | e | e | e | e | e | e <;> subst e <;> decide +kernel
theorem zL_pond (N : zM) (a : Int32) : rX8_pond (zL 0) N a = 0 := by
  unfold rX8_pond rX6_part
  dsimp only
  by_cases c0 : a = 0
  · rw [if_pos c0]; rfl
  · by_cases c1 : a = 1
    · rw [if_neg c0, if_pos c1]; rfl
    · by_cases c2 : a = 2
      · rw [if_neg c0, if_neg c1, if_pos c2]; rfl
      · rw [if_neg c0, if_neg c1, if_neg c2]; rfl
theorem zL_mass (N : zM) {a : Int32} (h : z_rg a 0 6) : rX8_mass (zL 0) N a = 0 := by
  unfold rX8_mass
  simp only [zL_inBlocks]
  obtain ⟨w, h1, h2, h3⟩ := z_ix_rg h (by decide) (by decide)
  have h1 : w < 7 := h1
  subst h3
  clear h h2
  rcases (show w = 0 ∨ w = 1 ∨ w = 2 ∨ w = 3 ∨ w = 4 ∨ w = 5 ∨ w = 6 by omega) with e | e | e | e | e | e | e <;> subst e <;> decide +kernel
theorem zL_owner (N : zM) {a b : Int32} (h : z_rg a 0 1) : rX8_ofOwner (zL 0) N a b = (if b = 0 then 100 else 0) := by
  unfold rX8_ofOwner
  simp only [zL_shareOf]
  by_cases c : b = 0
  · rw [if_neg (fun z => z c), if_pos c]
    obtain ⟨w, h1, h2, h3⟩ := z_ix_rg h (by decide) (by decide)
    have h1 : w < 2 := h1
    subst h3
    clear h h2
    rcases (show w = 0 ∨ w = 1 by omega) with e | e <;> subst e <;> decide +kernel
  · rw [if_pos c, if_neg c]
theorem zL_closed (N : zM) : rX8_isClosed (zL 0) N = 1 := by
  unfold rX8_isClosed rX3_accountedFor
  simp only [zL_inBlocks]
  decide +kernel
theorem zL_d6 (N : zM) (k : Nat) (d : Int64) (hk : k < 13) : bX8_digest_6 (zL 0) N k d = d * 31 + (yMany (nI k)).toInt64 := by
  unfold bX8_digest_6
  simp only [zL_many N (z_rg_k (k := k) (N := 12) rfl hk (by decide) rfl)]
theorem zL_d281 (N : zM) (k : Nat) (d : Int64) : bX8_digest_281 (zL 0) N k d = d * 31 + (0 : Int32).toInt64 := by
  unfold bX8_digest_281
  simp only [zL_pond]
theorem zL_d350 (N : zM) (k : Nat) (d : Int64) (hk : k < 7) : bX8_digest_350 (zL 0) N k d = d * 31 + (0 : Int32).toInt64 := by
  unfold bX8_digest_350
  simp only [zL_mass N (z_rg_k (k := k) (N := 6) rfl hk (by decide) rfl)]
theorem zL_d315 (N : zM) (i : Int32) (k : Nat) (d : Int64) (hi : z_rg i 0 1) : bX8_digest_315 (zL 0) N i k d = d * 31 + (if nI k = 0 then (100 : Int32) else 0).toInt64 := by
  unfold bX8_digest_315
  simp only [zL_owner N hi]
theorem zL_d307 (N : zM) (k : Nat) (d : Int64) (hk : k < 2) : bX8_digest_307 (zL 0) N k d = (d * 31 + (100 : Int32).toInt64) * 31 + (0 : Int32).toInt64 := by
  unfold bX8_digest_307
  have hi : z_rg (nI k) 0 1 := z_rg_k (k := k) (N := 1) rfl hk (by decide) rfl
  simp only [zit_n2, zL_d315 N (nI k) _ _ hi]
  rfl
theorem zL_digest : rX8_digest (zL 0) (zL 0) = (-8640506924048327797) := by
  unfold rX8_digest
  simp only [zL_c10, zL_c11, zL_c12, zL_c13, zit_0, zit_n13, zit_n4, zit_n2, zit_n7, zL_d6 _ _ _ (show (0 : Nat) < 13 by decide), zL_d6 _ _ _ (show (1 : Nat) < 13 by decide), zL_d6 _ _ _ (show (2 : Nat) < 13 by decide), zL_d6 _ _ _ (show (3 : Nat) < 13 by decide), zL_d6 _ _ _ (show (4 : Nat) < 13 by decide), zL_d6 _ _ _ (show (5 : Nat) < 13 by decide), zL_d6 _ _ _ (show (6 : Nat) < 13 by decide), zL_d6 _ _ _ (show (7 : Nat) < 13 by decide), zL_d6 _ _ _ (show (8 : Nat) < 13 by decide), zL_d6 _ _ _ (show (9 : Nat) < 13 by decide), zL_d6 _ _ _ (show (10 : Nat) < 13 by decide), zL_d6 _ _ _ (show (11 : Nat) < 13 by decide), zL_d6 _ _ _ (show (12 : Nat) < 13 by decide), zL_d281, zL_d307 _ _ _ (show (0 : Nat) < 2 by decide), zL_d307 _ _ _ (show (1 : Nat) < 2 by decide), zL_d350 _ _ _ (show (0 : Nat) < 7 by decide), zL_d350 _ _ _ (show (1 : Nat) < 7 by decide), zL_d350 _ _ _ (show (2 : Nat) < 7 by decide), zL_d350 _ _ _ (show (3 : Nat) < 7 by decide), zL_d350 _ _ _ (show (4 : Nat) < 7 by decide), zL_d350 _ _ _ (show (5 : Nat) < 7 by decide), zL_d350 _ _ _ (show (6 : Nat) < 7 by decide), zL_closed]
  have h4 := zL_would 0 4 (by decide)
  have h3 := zL_best 4 3 (by decide)
  rw [show (4 : Int32) = nI 4 from rfl, show (3 : Int32) = nI 3 from rfl, h4.1, h4.2, h3]
  decide +kernel
