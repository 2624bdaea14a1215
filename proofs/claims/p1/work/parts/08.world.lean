/-- the words on nest mates out of the tables -/
def zw_nest : List Cond := [.fieldLinkNest "Steamfield" 47 "Steamfield$Water" "mass" "I" "Steamfield", .fieldLinkNest "Steamfield$Well" 40 "Steamfield$Water" "mass" "I" "Steamfield", .fieldLinkNest "Steamfield$Block" 27 "Steamfield$Water" "mass" "I" "Steamfield", .fieldLinkNest "Steamfield$Land" 204 "Steamfield$Water" "mass" "I" "Steamfield", .fieldLinkNest "Steamfield" 52 "Steamfield$Water" "heat" "I" "Steamfield", .fieldLinkNest "Steamfield$Block" 30 "Steamfield$Water" "heat" "I" "Steamfield", .fieldLinkNest "Steamfield$Land" 213 "Steamfield$Water" "heat" "I" "Steamfield", .fieldLinkNest "Steamfield" 55 "Steamfield$Water" "salt" "I" "Steamfield", .fieldLinkNest "Steamfield$Block" 43 "Steamfield$Water" "salt" "I" "Steamfield", .fieldLinkNest "Steamfield$Land" 233 "Steamfield$Water" "salt" "I" "Steamfield", .fieldLinkNest "Steamfield$Well" 45 "Steamfield$Water" "tracer" "I" "Steamfield", .fieldLinkNest "Steamfield$Block" 49 "Steamfield$Water" "tracer" "I" "Steamfield", .fieldLinkNest "Steamfield" 139 "Steamfield$Water" "tracer" "I" "Steamfield", .fieldLinkNest "Steamfield$Land" 269 "Steamfield$Water" "tracer" "I" "Steamfield", .fieldLinkNest "Steamfield" 158 "Steamfield$Plant" "size" "I" "Steamfield", .fieldLinkNest "Steamfield$Land" 242 "Steamfield$Plant" "size" "I" "Steamfield", .fieldLinkNest "Steamfield" 163 "Steamfield$Plant" "isRunning" "Z" "Steamfield", .fieldLinkNest "Steamfield$Land" 239 "Steamfield$Plant" "isRunning" "Z" "Steamfield", .fieldLinkNest "Steamfield$Land" 245 "Steamfield$Plant" "power" "I" "Steamfield", .fieldLinkNest "Steamfield" 236 "Steamfield$Plant" "power" "I" "Steamfield", .fieldLinkNest "Steamfield$Land" 248 "Steamfield$Plant" "powerEver" "I" "Steamfield", .fieldLinkNest "Steamfield" 239 "Steamfield$Plant" "powerEver" "I" "Steamfield", .fieldLinkNest "Steamfield" 166 "Steamfield$Plant" "need" "I" "Steamfield", .fieldLinkNest "Steamfield$Land" 257 "Steamfield$Plant" "need" "I" "Steamfield", .fieldLinkNest "Steamfield$Land" 260 "Steamfield$Plant" "townHeat" "I" "Steamfield", .fieldLinkNest "Steamfield" 242 "Steamfield$Plant" "townHeat" "I" "Steamfield", .fieldLinkNest "Steamfield" 62 "Steamfield$Books" "told" "LSteamfield$Water;" "Steamfield", .fieldLinkNest "Steamfield$Land" 133 "Steamfield$Books" "spilled" "LSteamfield$Water;" "Steamfield", .fieldLinkNest "Steamfield" 218 "Steamfield$Books" "spilled" "LSteamfield$Water;" "Steamfield", .fieldLinkNest "Steamfield$Land" 136 "Steamfield$Books" "sprung" "LSteamfield$Water;" "Steamfield", .fieldLinkNest "Steamfield" 221 "Steamfield$Books" "sprung" "LSteamfield$Water;" "Steamfield", .fieldLinkNest "Steamfield$Land" 251 "Steamfield$Books" "used" "I" "Steamfield", .fieldLinkNest "Steamfield" 212 "Steamfield$Books" "used" "I" "Steamfield", .fieldLinkNest "Steamfield$Land" 254 "Steamfield$Books" "vented" "I" "Steamfield", .fieldLinkNest "Steamfield" 215 "Steamfield$Books" "vented" "I" "Steamfield", .fieldLinkNest "Steamfield" 43 "Steamfield$Block" "water" "LSteamfield$Water;" "Steamfield", .fieldLinkNest "Steamfield$Land" 123 "Steamfield$Block" "water" "LSteamfield$Water;" "Steamfield", .fieldLinkNest "Steamfield" 35 "Steamfield$Block" "volume" "I" "Steamfield", .fieldLinkNest "Steamfield$Land" 117 "Steamfield$Block" "volume" "I" "Steamfield", .fieldLinkNest "Steamfield" 40 "Steamfield$Block" "owner" "I" "Steamfield", .fieldLinkNest "Steamfield$Land" 114 "Steamfield$Block" "owner" "I" "Steamfield", .fieldLinkNest "Steamfield" 88 "Steamfield$Face" "one" "I" "Steamfield", .fieldLinkNest "Steamfield$Land" 180 "Steamfield$Face" "one" "I" "Steamfield", .fieldLinkNest "Steamfield" 93 "Steamfield$Face" "other" "I" "Steamfield", .fieldLinkNest "Steamfield$Land" 183 "Steamfield$Face" "other" "I" "Steamfield", .fieldLinkNest "Steamfield" 96 "Steamfield$Face" "open" "I" "Steamfield", .fieldLinkNest "Steamfield$Land" 194 "Steamfield$Face" "open" "I" "Steamfield", .fieldLinkNest "Steamfield$Land" 207 "Steamfield$Face" "flow" "I" "Steamfield", .fieldLinkNest "Steamfield" 202 "Steamfield$Face" "flow" "I" "Steamfield", .fieldLinkNest "Steamfield" 106 "Steamfield$Well" "block" "I" "Steamfield", .fieldLinkNest "Steamfield$Land" 220 "Steamfield$Well" "block" "I" "Steamfield", .fieldLinkNest "Steamfield" 111 "Steamfield$Well" "isInjector" "Z" "Steamfield", .fieldLinkNest "Steamfield$Land" 139 "Steamfield$Well" "isInjector" "Z" "Steamfield", .fieldLinkNest "Steamfield" 131 "Steamfield$Well" "valve" "I" "Steamfield", .fieldLinkNest "Steamfield$Land" 143 "Steamfield$Well" "valve" "I" "Steamfield", .fieldLinkNest "Steamfield" 142 "Steamfield$Well" "scale" "I" "Steamfield", .fieldLinkNest "Steamfield$Land" 223 "Steamfield$Well" "scale" "I" "Steamfield", .fieldLinkNest "Steamfield" 151 "Steamfield$Well" "crust" "I" "Steamfield", .fieldLinkNest "Steamfield" 184 "Steamfield$Well" "flow" "I" "Steamfield", .fieldLinkNest "Steamfield" 187 "Steamfield$Well" "steam" "I" "Steamfield", .fieldLinkNest "Steamfield" 190 "Steamfield$Well" "tracer" "I" "Steamfield", .fieldLinkNest "Steamfield" 191 "Steamfield$Well" "flowEver" "I" "Steamfield", .fieldLinkNest "Steamfield" 122 "Steamfield$Spring" "block" "I" "Steamfield", .fieldLinkNest "Steamfield$Land" 275 "Steamfield$Spring" "block" "I" "Steamfield", .fieldLinkNest "Steamfield" 125 "Steamfield$Spring" "level" "I" "Steamfield", .fieldLinkNest "Steamfield$Land" 276 "Steamfield$Spring" "level" "I" "Steamfield", .fieldLinkNest "Steamfield" 128 "Steamfield$Spring" "promise" "I" "Steamfield", .fieldLinkNest "Steamfield" 194 "Steamfield$Spring" "flow" "I" "Steamfield", .fieldLinkNest "Steamfield" 195 "Steamfield$Spring" "lacked" "I" "Steamfield", .fieldLinkNest "Steamfield$Land" 283 "Steamfield$Spring" "lacked" "I" "Steamfield", .fieldLinkNest "Steamfield" 198 "Steamfield$Spring" "flowEver" "I" "Steamfield", .fieldLinkNest "Steamfield$Land" 120 "Steamfield$Spring" "lackedEver" "I" "Steamfield", .fieldLinkNest "Steamfield" 199 "Steamfield$Spring" "lackedEver" "I" "Steamfield", .fieldLinkNest "Steamfield" 31 "Steamfield$Land" "blocks" "[LSteamfield$Block;" "Steamfield", .fieldLinkNest "Steamfield" 84 "Steamfield$Land" "faces" "[LSteamfield$Face;" "Steamfield", .fieldLinkNest "Steamfield" 102 "Steamfield$Land" "wells" "[LSteamfield$Well;" "Steamfield", .fieldLinkNest "Steamfield" 118 "Steamfield$Land" "springs" "[LSteamfield$Spring;" "Steamfield", .fieldLinkNest "Steamfield" 203 "Steamfield$Land" "pond" "LSteamfield$Water;" "Steamfield", .fieldLinkNest "Steamfield" 154 "Steamfield$Land" "plant" "LSteamfield$Plant;" "Steamfield", .fieldLinkNest "Steamfield" 58 "Steamfield$Land" "books" "LSteamfield$Books;" "Steamfield", .fieldLinkNest "Steamfield" 145 "Steamfield$Land" "coins" "[I" "Steamfield", .fieldLinkNest "Steamfield" 23 "Steamfield$Land" "blockCount" "I" "Steamfield", .fieldLinkNest "Steamfield" 81 "Steamfield$Land" "faceCount" "I" "Steamfield", .fieldLinkNest "Steamfield" 99 "Steamfield$Land" "wellCount" "I" "Steamfield", .fieldLinkNest "Steamfield" 115 "Steamfield$Land" "springCount" "I" "Steamfield", .fieldLinkNest "Steamfield" 227 "Steamfield$Land" "now" "I" "Steamfield", .fieldLinkNest "SteamfieldModel" 40 "SteamfieldModel$Field" "blocks" "[[I" "SteamfieldModel", .fieldLinkNest "SteamfieldModel" 52 "SteamfieldModel$Field" "faces" "[[I" "SteamfieldModel", .fieldLinkNest "SteamfieldModel" 55 "SteamfieldModel$Field" "wells" "[[I" "SteamfieldModel", .fieldLinkNest "SteamfieldModel" 58 "SteamfieldModel$Field" "springs" "[[I" "SteamfieldModel", .fieldLinkNest "SteamfieldModel" 20 "SteamfieldModel$Field" "manyBlocks" "I" "SteamfieldModel", .fieldLinkNest "SteamfieldModel" 27 "SteamfieldModel$Field" "manyFaces" "I" "SteamfieldModel", .fieldLinkNest "SteamfieldModel" 30 "SteamfieldModel$Field" "manyWells" "I" "SteamfieldModel", .fieldLinkNest "SteamfieldModel" 33 "SteamfieldModel$Field" "manySprings" "I" "SteamfieldModel", .fieldLinkNest "SteamfieldModel" 100 "SteamfieldModel$Field" "pond" "[I" "SteamfieldModel", .fieldLinkNest "SteamfieldModel" 44 "SteamfieldModel$Field" "told" "[I" "SteamfieldModel", .fieldLinkNest "SteamfieldModel" 115 "SteamfieldModel$Field" "spilled" "[I" "SteamfieldModel", .fieldLinkNest "SteamfieldModel" 118 "SteamfieldModel$Field" "gone" "[I" "SteamfieldModel", .fieldLinkNest "SteamfieldModel" 64 "SteamfieldModel$Field" "coins" "[I" "SteamfieldModel", .fieldLinkNest "SteamfieldModel" 135 "SteamfieldModel$Field" "shocks" "[I" "SteamfieldModel", .fieldLinkNest "SteamfieldModel" 67 "SteamfieldModel$Field" "size" "I" "SteamfieldModel", .fieldLinkNest "SteamfieldModel" 74 "SteamfieldModel$Field" "need" "I" "SteamfieldModel", .fieldLinkNest "SteamfieldModel" 70 "SteamfieldModel$Field" "runs" "Z" "SteamfieldModel", .fieldLinkNest "SteamfieldModel" 128 "SteamfieldModel$Field" "now" "I" "SteamfieldModel", .fieldLinkNest "SteamfieldModel" 138 "SteamfieldModel$Field" "power" "I" "SteamfieldModel", .fieldLinkNest "SteamfieldModel" 141 "SteamfieldModel$Field" "allPower" "I" "SteamfieldModel", .fieldLinkNest "SteamfieldModel" 144 "SteamfieldModel$Field" "warmed" "I" "SteamfieldModel", .fieldLinkNest "SteamfieldModel" 109 "SteamfieldModel$Field" "used" "I" "SteamfieldModel", .fieldLinkNest "SteamfieldModel" 112 "SteamfieldModel$Field" "vented" "I" "SteamfieldModel", .methodLinkNest "Steamfield$Land" 37 ⟨"Steamfield$Water", "<init>", "()V"⟩ "Steamfield", .methodLinkNest "Steamfield$Land" 44 ⟨"Steamfield$Plant", "<init>", "()V"⟩ "Steamfield", .methodLinkNest "Steamfield$Land" 51 ⟨"Steamfield$Books", "<init>", "()V"⟩ "Steamfield", .methodLinkNest "Steamfield$Books" 9 ⟨"Steamfield$Water", "<init>", "()V"⟩ "Steamfield", .methodLinkNest "Steamfield$Land" 66 ⟨"Steamfield$Block", "<init>", "()V"⟩ "Steamfield", .methodLinkNest "Steamfield$Block" 9 ⟨"Steamfield$Water", "<init>", "()V"⟩ "Steamfield", .methodLinkNest "Steamfield$Land" 67 ⟨"Steamfield$Face", "<init>", "()V"⟩ "Steamfield", .methodLinkNest "Steamfield$Land" 68 ⟨"Steamfield$Well", "<init>", "()V"⟩ "Steamfield", .methodLinkNest "Steamfield$Land" 69 ⟨"Steamfield$Spring", "<init>", "()V"⟩ "Steamfield", .methodLinkNest "SteamfieldModel" 9 ⟨"SteamfieldModel$Field", "<init>", "()V"⟩ "SteamfieldModel"]
theorem zw_nest_ok : zw_nest.all z_nest = true := by decide +kernel
/-- which fields are references -/
def zf : Nat → List Bool
  | 0 => [true, false, false]
  | 1 => [true, true, true, false, false]
  | 2 => [false, false, false, false]
  | 3 => [true, true, true, true, true, true, true, true, true, true, false, false, false, false, false]
  | 4 => [false, false, false, false, false, false]
  | 5 => [false, false, false, false, false, false, false]
  | 6 => [false, false, false, false]
  | 7 => [false, false, false, false, false, false, false, false, false]
  | 8 => [true, true]
  | _ => []
/-- the ids of a land: 0 itself, 1 to 4 its rows of blocks, faces, wells, springs, 5 pond, 6 plant, 7 books, 8 coins, 9 shocks, 10 load, 11 told, 12 spilled, 13 sprung, 20.. blocks, 30.. their waters, 40.. faces, 60.. wells, 70.. springs -/
def zk (i : Nat) : Nat :=
  if i = 0 then 3 else if i = 1 then 101 else if i = 2 then 102 else if i = 3 then 103 else if i = 4 then 104 else if i = 5 then 6 else if i = 6 then 4 else if i = 7 then 1 else if i = 8 then 100 else if i = 9 then 100 else if i < 14 then 6 else if i < 20 then 999 else if i < 28 then 0 else if i < 30 then 999 else if i < 38 then 6 else if i < 40 then 999 else if i < 52 then 2 else if i < 60 then 999 else if i < 66 then 7 else if i < 70 then 999 else if i < 73 then 5 else 999
def zr (i k : Nat) : Option Nat :=
  if i = 0 then (if k < 10 then some (k + 1) else none)
  else if i = 1 then (if k < 8 then some (20 + k) else none)
  else if i = 2 then (if k < 12 then some (40 + k) else none)
  else if i = 3 then (if k < 6 then some (60 + k) else none)
  else if i = 4 then (if k < 3 then some (70 + k) else none)
  else if i = 7 then (if k < 3 then some (11 + k) else none)
  else if 20 ≤ i ∧ i < 28 then (if k = 0 then some (10 + i) else none)
  else none
def zn (i : Nat) : Nat := if i = 1 then 8 else if i = 2 then 12 else if i = 3 then 6 else if i = 4 then 3 else if i = 8 then 2 else if i = 9 then 4 else 0
abbrev zd : zD := (zk, zr, zn)
theorem zk_0 : zk 0 = 3 := by decide
theorem zk_1 : zk 1 = 101 := by decide
theorem zk_2 : zk 2 = 102 := by decide
theorem zk_3 : zk 3 = 103 := by decide
theorem zk_4 : zk 4 = 104 := by decide
theorem zk_5 : zk 5 = 6 := by decide
theorem zk_6 : zk 6 = 4 := by decide
theorem zk_7 : zk 7 = 1 := by decide
theorem zk_8 : zk 8 = 100 := by decide
theorem zk_9 : zk 9 = 100 := by decide
theorem zk_10 : zk 10 = 6 := by decide
theorem zk_11 : zk 11 = 6 := by decide
theorem zk_12 : zk 12 = 6 := by decide
theorem zk_13 : zk 13 = 6 := by decide
theorem zk_b {n : Nat} (h : n < 8) : zk (20 + n) = 0 := by
  unfold zk
  repeat rw [if_neg (by omega)]
  rw [if_pos (by omega)]
theorem zk_w {n : Nat} (h : n < 8) : zk (30 + n) = 6 := by
  unfold zk
  repeat rw [if_neg (by omega)]
  rw [if_pos (by omega)]
theorem zk_f {n : Nat} (h : n < 12) : zk (40 + n) = 2 := by
  unfold zk
  repeat rw [if_neg (by omega)]
  rw [if_pos (by omega)]
theorem zk_v {n : Nat} (h : n < 6) : zk (60 + n) = 7 := by
  unfold zk
  repeat rw [if_neg (by omega)]
  rw [if_pos (by omega)]
theorem zk_s {n : Nat} (h : n < 3) : zk (70 + n) = 5 := by
  unfold zk
  repeat rw [if_neg (by omega)]
  rw [if_pos (by omega)]
theorem zr_b {n : Nat} (h : n < 8) : zr (20 + n) 0 = some (30 + n) := by
  unfold zr
  repeat rw [if_neg (by omega)]
  rw [if_pos (by omega), if_pos rfl]
  congr 1
  omega
theorem zr_0 {k : Nat} (h : k < 10) : zr 0 k = some (k + 1) := by
  unfold zr
  rw [if_pos rfl, if_pos h]
theorem zr_7 {k : Nat} (h : k < 3) : zr 7 k = some (11 + k) := by
  unfold zr
  repeat rw [if_neg (by omega)]
  rw [if_pos rfl, if_pos h]
theorem zr_1 {k : Nat} (h : k < 8) : zr 1 k = some (20 + k) := by
  unfold zr
  repeat rw [if_neg (by omega)]
  rw [if_pos rfl, if_pos h]
theorem zr_2 {k : Nat} (h : k < 12) : zr 2 k = some (40 + k) := by
  unfold zr
  repeat rw [if_neg (by omega)]
  rw [if_pos rfl, if_pos h]
theorem zr_3 {k : Nat} (h : k < 6) : zr 3 k = some (60 + k) := by
  unfold zr
  repeat rw [if_neg (by omega)]
  rw [if_pos rfl, if_pos h]
theorem zr_4 {k : Nat} (h : k < 3) : zr 4 k = some (70 + k) := by
  unfold zr
  repeat rw [if_neg (by omega)]
  rw [if_pos rfl, if_pos h]
/-- the array classes' numbers -/
abbrev zt (ca : Nat → ClassId) : List (ClassId × FieldType) := [(ca 100, .int), (ca 101, .object "Steamfield$Block"), (ca 102, .object "Steamfield$Face"), (ca 103, .object "Steamfield$Well"), (ca 104, .object "Steamfield$Spring")]
theorem zx {n N : Nat} {x : Int32} (hx : x = nI n) (h : n < N) (hN : N < 2 ^ 31) : vp_in x N := by
  subst hx
  exact nI_in h hN
theorem zx_n {n : Nat} {x : Int32} (hx : x = nI n) (h : n < 2 ^ 31) : x.toNatClampNeg = n := by
  subst hx
  exact nI_clamp h
theorem z_nz {x : Int32} (h : ¬ x ≤ 0) : ¬ x = 0 := fun e => h (by rw [e]; exact Int32.le_refl _)
theorem z_nzl {x : Int32} (h : ¬ x ≤ 0) : ¬ x.toInt64 = 0 := by
  intro e
  apply h
  have h1 : x.toInt64.toInt = x.toInt := Int32.toInt_toInt64 x
  rw [e] at h1
  rw [Int32.le_iff_toInt_le, ← h1]
  decide
/-- a loop's steps, from 0 on -/
def zit {α : Type} (f : Nat → α → α) (n : Nat) (a : α) : α := if n = 0 then a else f (n - 1) (zit f (n - 1) a)
termination_by n
decreasing_by omega
theorem zit_0 {α : Type} (f : Nat → α → α) (a : α) : zit f 0 a = a := by
  rw [zit, if_pos rfl]
theorem zit_s {α : Type} (f : Nat → α → α) (n : Nat) (a : α) : zit f (n + 1) a = f n (zit f n a) := by
  rw [zit, if_neg (Nat.succ_ne_zero n), Nat.add_sub_cancel]
/-- steps until c holds, n at most -/
def zwh {α : Type} (c : α → Bool) (f : α → α) (n : Nat) (a : α) : α := if n = 0 then a else if c a = true then a else zwh c f (n - 1) (f a)
termination_by n
decreasing_by omega
theorem zwh_0 {α : Type} (c : α → Bool) (f : α → α) (a : α) : zwh c f 0 a = a := by
  rw [zwh, if_pos rfl]
theorem zwh_t {α : Type} (c : α → Bool) (f : α → α) (n : Nat) (a : α) (h : c a = true) : zwh c f n a = a := by
  rw [zwh]
  by_cases h0 : n = 0
  · rw [if_pos h0]
  · rw [if_neg h0, if_pos h]
theorem zwh_f {α : Type} (c : α → Bool) (f : α → α) (n : Nat) (a : α) (h : c a = false) (hn : 0 < n) : zwh c f n a = zwh c f (n - 1) (f a) := by
  rw [zwh, if_neg (by omega), if_neg (by rw [h]; decide)]
abbrev zW (dC : Nat → ClassId) (dI : Nat → Nat → Nat) (ca : Nat → ClassId) (ad : Nat → Nat) (M : zM) (H : Heap) : Prop := z_H (dC, dI) vwCl zf ca zd ad M H
/-- the field itself: id 0; its land and its trial are other worlds' cells -/
abbrev zdS : zD := (fun i => if i = 0 then 8 else 999, fun i k => if i = 0 then (if k < 2 then some (k + 1) else none) else none, fun _ => 0)
def zs (sf x y : Nat) : Nat → Nat := fun i => if i = 0 then sf else if i = 1 then x else y
def zM0 : zM := fun _ _ => 0
abbrev zT (dC : Nat → ClassId) (dI : Nat → Nat → Nat) (ca : Nat → ClassId) (sf x y : Nat) (H : Heap) : Prop := z_H (dC, dI) vwCl zf ca zdS (zs sf x y) zM0 H
theorem zT_u {dC : Nat → ClassId} {dI : Nat → Nat → Nat} {ca : Nat → ClassId} {sf x y a : Nat} {H H1 : Heap} (h : zT dC dI ca sf x y H) (oq : ∀ q : Nat, q ≠ a → H1[q]? = H[q]?) (hn : a ≠ sf) : zT dC dI ca sf x y H1 := h.kept (fun i hi => by
  by_cases h0 : i = 0
  · subst h0
    exact oq _ (Ne.symm hn)
  · simp [zdS, h0] at hi)
theorem zT_c {dC : Nat → ClassId} {dI : Nat → Nat → Nat} {ca : Nat → ClassId} {sf x y : Nat} {A1 : Nat → Prop} {H H1 : Heap} (h : zT dC dI ca sf x y H) (oq : ∀ q : Nat, q < H.size → ¬ A1 q → H1[q]? = H[q]?) (hn : ¬ A1 sf) : zT dC dI ca sf x y H1 := h.kept (fun i hi => by
  by_cases h0 : i = 0
  · subst h0
    exact oq _ (h.lt (i := 0) (by decide)) hn
  · simp [zdS, h0] at hi)
theorem zW_u {dC : Nat → ClassId} {dI : Nat → Nat → Nat} {ca : Nat → ClassId} {ad ad2 : Nat → Nat} {N : zM} {i : Nat} {H H1 : Heap} (h : zW dC dI ca ad2 N H) (oq : ∀ q : Nat, q ≠ ad i → H1[q]? = H[q]?) (hX : ∀ i j, zk i < 200 → zk j < 200 → ad i ≠ ad2 j) (hi : zk i < 200) : zW dC dI ca ad2 N H1 := h.kept (fun j hj => oq _ (fun z => hX i j hi hj z.symm))
theorem zW_c {dC : Nat → ClassId} {dI : Nat → Nat → Nat} {ca : Nat → ClassId} {ad ad2 : Nat → Nat} {N : zM} {H H1 : Heap} (h : zW dC dI ca ad2 N H) (oq : ∀ q : Nat, q < H.size → ¬ z_A zd ad q → H1[q]? = H[q]?) (hX : ∀ i j, zk i < 200 → zk j < 200 → ad i ≠ ad2 j) : zW dC dI ca ad2 N H1 := h.kept (fun j hj => oq _ (h.lt hj) (fun ⟨i, hi, e⟩ => hX i j hi hj e))
/-- the field's cells are apart -/
def zSep (sf : Nat) (ad ad2 : Nat → Nat) : Prop := (∀ i j, zk i < 200 → zk j < 200 → ad i ≠ ad2 j) ∧ (∀ i, zk i < 200 → ad i ≠ sf) ∧ (∀ i, zk i < 200 → ad2 i ≠ sf)
theorem zSep.x {sf : Nat} {ad ad2 : Nat → Nat} (h : zSep sf ad ad2) : ∀ i j, zk i < 200 → zk j < 200 → ad i ≠ ad2 j := h.1
theorem zSep.xs {sf : Nat} {ad ad2 : Nat → Nat} (h : zSep sf ad ad2) : ∀ i j, zk i < 200 → zk j < 200 → ad2 i ≠ ad j := fun i j hi hj e => h.1 j i hj hi e.symm
theorem zSep.a1 {sf : Nat} {ad ad2 : Nat → Nat} (h : zSep sf ad ad2) : ¬ z_A zd ad sf := fun ⟨i, hi, e⟩ => h.2.1 i hi e
theorem zSep.a2 {sf : Nat} {ad ad2 : Nat → Nat} (h : zSep sf ad ad2) : ¬ z_A zd ad2 sf := fun ⟨i, hi, e⟩ => h.2.2 i hi e
def zA2 (ad ad2 : Nat → Nat) : Nat → Prop := fun q => z_A zd ad q ∨ z_A zd ad2 q
theorem z_gS {p : Program} {l : Launch} {e : Env} {R : Room} {s : State} {m : MethodId} {args : Array Value} {below : List Frame} {meth : Method} {c : Code} {H : Heap} {locs : List Loc} {cells slots : Nat} {Q : State → Prop} {cc : ByteArray} {pc : Nat} {ls : Array Slot} {rest : List Value} {dC : Nat → ClassId} {dI : Nat → Nat → Nat} {ca : Nat → ClassId} {tys : List (ClassId × FieldType)} {sf x y : Nat} (hexec : p.tables.exec = Jvm.exec) (hb : c.code = cc) {own ref : String} {index k v : Nat} {Ts : List Cond} (hts : ∀ w ∈ Ts, w.before args s = true) (hin : ∀ w ∈ u_ws RX8 TX8 2, w ∈ Ts) (hown : s.vm.findClass own = some m.cls) (hK : va_K (dC, dI) vwCl tys s) (hT : zT dC dI ca sf x y H) (hk : k < 2) (hv : zs sf x y (k + 1) = v) (hlink : (Cond.fieldLink own index ref (TX8 k).2.1 (TX8 k).2.2.1).before args s = true) (hsame : ∀ x, s.fieldFound? (TX8 k).1 (TX8 k).2.1 (TX8 k).2.2.1 = some x → s.fieldFound? ref (TX8 k).2.1 (TX8 k).2.2.1 = some x) (hdg : decode cc pc = .ok (.getfield index, 3))
    (kk : W p l e R s m args below meth c H locs cells slots Q (F0 m (pc + 3) ls (.ref v :: rest))) : W p l e R s m args below meth c H locs cells slots Q (F0 m pc ls (.ref sf :: rest)) := by
  subst hv
  have h1 : (zf 8)[k]? = some true := by
    rcases (show k = 0 ∨ k = 1 by omega) with h | h <;> subst h <;> rfl
  have h2 : zdS.2.1 0 k = some (k + 1) := by simp [zdS, hk]
  exact z_gr (C := RX8) (T := TX8) (N := 2) (ci := 8) (i := 0) hexec hb hts hin hown hK hT rfl (by decide) rfl hk h1 h2 hlink hsame hdg kk
theorem z_ite01 {c : Prop} [Decidable c] {a b : Int32} (h1 : a = 0 ∨ a = 1) (h2 : b = 0 ∨ b = 1) : (if c then a else b) = 0 ∨ (if c then a else b) = 1 := by
  by_cases h : c
  · rw [if_pos h]; exact h1
  · rw [if_neg h]; exact h2
abbrev z_rg (x lo hi : Int32) : Prop := ¬ x < lo ∧ ¬ hi < x
theorem z_tout3 {x : Int32} (h0 : ¬ x = 0) (h1 : ¬ x = 1) (h2 : ¬ x = 2) : x.toInt < 0 ∨ 2 < x.toInt := by
  have g0 : x.toInt ≠ 0 := fun q => h0 (Int32.toInt_inj.mp (by rw [q]; rfl))
  have g1 : x.toInt ≠ 1 := fun q => h1 (Int32.toInt_inj.mp (by rw [q]; rfl))
  have g2 : x.toInt ≠ 2 := fun q => h2 (Int32.toInt_inj.mp (by rw [q]; rfl))
  omega
theorem z_tout6 {x : Int32} (h0 : ¬ x = 0) (h1 : ¬ x = 1) (h2 : ¬ x = 2) (h3 : ¬ x = 3) (h4 : ¬ x = 4) (h5 : ¬ x = 5) : x.toInt < 0 ∨ 5 < x.toInt := by
  have g0 : x.toInt ≠ 0 := fun q => h0 (Int32.toInt_inj.mp (by rw [q]; rfl))
  have g1 : x.toInt ≠ 1 := fun q => h1 (Int32.toInt_inj.mp (by rw [q]; rfl))
  have g2 : x.toInt ≠ 2 := fun q => h2 (Int32.toInt_inj.mp (by rw [q]; rfl))
  have g3 : x.toInt ≠ 3 := fun q => h3 (Int32.toInt_inj.mp (by rw [q]; rfl))
  have g4 : x.toInt ≠ 4 := fun q => h4 (Int32.toInt_inj.mp (by rw [q]; rfl))
  have g5 : x.toInt ≠ 5 := fun q => h5 (Int32.toInt_inj.mp (by rw [q]; rfl))
  omega
theorem z_tout8 {x : Int32} (h0 : ¬ x = 0) (h1 : ¬ x = 1) (h2 : ¬ x = 2) (h3 : ¬ x = 3) (h4 : ¬ x = 4) (h5 : ¬ x = 5) (h6 : ¬ x = 6) (h7 : ¬ x = 7) : x.toInt < 0 ∨ 7 < x.toInt := by
  have g0 : x.toInt ≠ 0 := fun q => h0 (Int32.toInt_inj.mp (by rw [q]; rfl))
  have g1 : x.toInt ≠ 1 := fun q => h1 (Int32.toInt_inj.mp (by rw [q]; rfl))
  have g2 : x.toInt ≠ 2 := fun q => h2 (Int32.toInt_inj.mp (by rw [q]; rfl))
  have g3 : x.toInt ≠ 3 := fun q => h3 (Int32.toInt_inj.mp (by rw [q]; rfl))
  have g4 : x.toInt ≠ 4 := fun q => h4 (Int32.toInt_inj.mp (by rw [q]; rfl))
  have g5 : x.toInt ≠ 5 := fun q => h5 (Int32.toInt_inj.mp (by rw [q]; rfl))
  have g6 : x.toInt ≠ 6 := fun q => h6 (Int32.toInt_inj.mp (by rw [q]; rfl))
  have g7 : x.toInt ≠ 7 := fun q => h7 (Int32.toInt_inj.mp (by rw [q]; rfl))
  omega
theorem z_tout12 {x : Int32} (h0 : ¬ x = 0) (h1 : ¬ x = 1) (h2 : ¬ x = 2) (h3 : ¬ x = 3) (h4 : ¬ x = 4) (h5 : ¬ x = 5) (h6 : ¬ x = 6) (h7 : ¬ x = 7) (h8 : ¬ x = 8) (h9 : ¬ x = 9) (h10 : ¬ x = 10) (h11 : ¬ x = 11) : x.toInt < 0 ∨ 11 < x.toInt := by
  have g0 : x.toInt ≠ 0 := fun q => h0 (Int32.toInt_inj.mp (by rw [q]; rfl))
  have g1 : x.toInt ≠ 1 := fun q => h1 (Int32.toInt_inj.mp (by rw [q]; rfl))
  have g2 : x.toInt ≠ 2 := fun q => h2 (Int32.toInt_inj.mp (by rw [q]; rfl))
  have g3 : x.toInt ≠ 3 := fun q => h3 (Int32.toInt_inj.mp (by rw [q]; rfl))
  have g4 : x.toInt ≠ 4 := fun q => h4 (Int32.toInt_inj.mp (by rw [q]; rfl))
  have g5 : x.toInt ≠ 5 := fun q => h5 (Int32.toInt_inj.mp (by rw [q]; rfl))
  have g6 : x.toInt ≠ 6 := fun q => h6 (Int32.toInt_inj.mp (by rw [q]; rfl))
  have g7 : x.toInt ≠ 7 := fun q => h7 (Int32.toInt_inj.mp (by rw [q]; rfl))
  have g8 : x.toInt ≠ 8 := fun q => h8 (Int32.toInt_inj.mp (by rw [q]; rfl))
  have g9 : x.toInt ≠ 9 := fun q => h9 (Int32.toInt_inj.mp (by rw [q]; rfl))
  have g10 : x.toInt ≠ 10 := fun q => h10 (Int32.toInt_inj.mp (by rw [q]; rfl))
  have g11 : x.toInt ≠ 11 := fun q => h11 (Int32.toInt_inj.mp (by rw [q]; rfl))
  omega
theorem z_le_of {x y : Int32} (h : ¬ y < x) : x ≤ y := by
  rw [Int32.lt_iff_toInt_lt] at h
  rw [Int32.le_iff_toInt_le]
  omega
theorem z_lt_of {x y : Int32} (h : ¬ y ≤ x) : x < y := by
  rw [Int32.le_iff_toInt_le] at h
  rw [Int32.lt_iff_toInt_lt]
  omega
theorem zk_lt {i c : Nat} (h : zk i = c) (hc : c < 200) : zk i < 200 := by rw [h]; exact hc
theorem z_t {x : Int32} {lo : Int} {offs : Array Int} {off : Int} {k : Int32} (h : x = k) (hk : offs[(k.toInt - lo).toNat]? = some off) : offs[(x.toInt - lo).toNat]? = some off := by rw [h]; exact hk
/-- places that no step writes, by kind -/
def zsk : Nat → Nat → Bool
  | 0, _ => true
  | 2, 0 => true
  | 2, 1 => true
  | 3, 10 => true
  | 3, 11 => true
  | 3, 12 => true
  | 3, 13 => true
  | 4, 0 => true
  | 4, 4 => true
  | 5, 0 => true
  | 5, 1 => true
  | 5, 2 => true
  | 7, 0 => true
  | 7, 1 => true
  | _, _ => false
/-- M' has what M has there -/
def z_Fx (M M' : zM) : Prop := ∀ i k, zsk (zk i) k = true → M' i k = M i k
theorem z_Fx.rf {M : zM} : z_Fx M M := fun _ _ _ => rfl
theorem z_Fx.tr {M M1 M2 : zM} (h : z_Fx M M1) (h2 : z_Fx M1 M2) : z_Fx M M2 := fun i k hk => (h2 i k hk).trans (h i k hk)
theorem z_Fx.u {M : zM} {i k c : Nat} {v : Int32} (hi : zk i = c) (hk : zsk c k = false) : z_Fx M (zu M i k v) := by
  intro j q hq
  have hn : ¬ (j = i ∧ q = k) := by
    rintro ⟨rfl, rfl⟩
    rw [hi, hk] at hq
    cases hq
  simp only [zu, if_neg hn]
theorem z_Fx.u2 {M M1 : zM} {i k c : Nat} {v : Int32} (hi : zk i = c) (hk : zsk c k = false) (h : z_Fx M M1) : z_Fx M (zu M1 i k v) := h.tr (z_Fx.u hi hk)
theorem z_Fx.it {M A B : zM} {c : Prop} [Decidable c] (h1 : z_Fx M A) (h2 : z_Fx M B) : z_Fx M (if c then A else B) := by
  by_cases h : c
  · rw [if_pos h]; exact h1
  · rw [if_neg h]; exact h2
/-- an index below N -/
def z_ix (x : Int32) (N : Nat) : Prop := ∃ n, n < N ∧ n < 2 ^ 31 ∧ x = nI n
theorem z_ix.lt {x : Int32} {N : Nat} (h : z_ix x N) : x.toNatClampNeg < N := by
  obtain ⟨n, h1, h2, h3⟩ := h
  rw [zx_n h3 h2]
  exact h1
theorem z_ix.eq {x : Int32} {N : Nat} (h : z_ix x N) : x = nI x.toNatClampNeg := by
  obtain ⟨n, h1, h2, h3⟩ := h
  rw [zx_n h3 h2]
  exact h3
theorem z_ix.in {x : Int32} {N : Nat} (h : z_ix x N) : vp_in x N := by
  obtain ⟨n, h1, h2, h3⟩ := h
  subst h3
  refine fun hh => ?_
  rcases hh with hh | hh
  · exact nI_pos h2 hh
  · rw [nI_clamp h2] at hh
    omega
theorem z_and3 (x : Int32) : z_ix (x &&& 3) 4 := by
  have h : (x.toBitVec &&& 3#32).toNat ≤ 3 := by
    rw [BitVec.toNat_and]
    exact Nat.and_le_right
  refine ⟨(x.toBitVec &&& 3#32).toNat, by omega, by omega, ?_⟩
  apply Int32.toBitVec_inj.mp
  show x.toBitVec &&& 3#32 = BitVec.ofNat 32 _
  rw [BitVec.ofNat_toNat, BitVec.setWidth_eq]
theorem z_ix1 {x : Int32} (h : z_ix x 2) : z_ix (1 - x) 2 := by
  obtain ⟨n, h1, h2, h3⟩ := h
  subst h3
  rcases (show n = 0 ∨ n = 1 by omega) with h | h <;> subst h
  · exact ⟨1, by decide, by decide, by decide⟩
  · exact ⟨0, by decide, by decide, by decide⟩
/-- counts and indices are in their bounds -/
def z_Ok (M : zM) : Prop := (z_ix (M 0 10) 9 ∧ z_ix (M 0 11) 13 ∧ z_ix (M 0 12) 7 ∧ z_ix (M 0 13) 4) ∧ (∀ f, f < 12 → z_ix (M (40 + f) 0) 8) ∧ (∀ f, f < 12 → z_ix (M (40 + f) 1) 8) ∧ (∀ v, v < 6 → z_ix (M (60 + v) 0) 8) ∧ (∀ v, v < 3 → z_ix (M (70 + v) 0) 8) ∧ (∀ b, b < 8 → z_ix (M (20 + b) 2) 2) ∧ (∀ v, v < 6 → M (60 + v) 1 = 0 ∨ M (60 + v) 1 = 1)
theorem z_Ok.one {M : zM} (h : z_Ok M) {f : Nat} (hf : f < 12) : z_ix (M (40 + f) 0) 8 := h.2.1 f hf
theorem z_Ok.other {M : zM} (h : z_Ok M) {f : Nat} (hf : f < 12) : z_ix (M (40 + f) 1) 8 := h.2.2.1 f hf
theorem z_Ok.wblock {M : zM} (h : z_Ok M) {f : Nat} (hf : f < 6) : z_ix (M (60 + f) 0) 8 := h.2.2.2.1 f hf
theorem z_Ok.sblock {M : zM} (h : z_Ok M) {f : Nat} (hf : f < 3) : z_ix (M (70 + f) 0) 8 := h.2.2.2.2.1 f hf
theorem z_Ok.owner {M : zM} (h : z_Ok M) {f : Nat} (hf : f < 8) : z_ix (M (20 + f) 2) 2 := h.2.2.2.2.2.1 f hf
theorem z_Ok.inj {M : zM} (h : z_Ok M) {f : Nat} (hf : f < 6) : M (60 + f) 1 = 0 ∨ M (60 + f) 1 = 1 := h.2.2.2.2.2.2 f hf
def zc10 (M : zM) : Nat := (M 0 10).toNatClampNeg
def zc11 (M : zM) : Nat := (M 0 11).toNatClampNeg
def zc12 (M : zM) : Nat := (M 0 12).toNatClampNeg
def zc13 (M : zM) : Nat := (M 0 13).toNatClampNeg
theorem z_Ok.c10 {M : zM} (h : z_Ok M) : M 0 10 = nI (zc10 M) := h.1.1.eq
theorem z_Ok.c11 {M : zM} (h : z_Ok M) : M 0 11 = nI (zc11 M) := h.1.2.1.eq
theorem z_Ok.c12 {M : zM} (h : z_Ok M) : M 0 12 = nI (zc12 M) := h.1.2.2.1.eq
theorem z_Ok.c13 {M : zM} (h : z_Ok M) : M 0 13 = nI (zc13 M) := h.1.2.2.2.eq
theorem z_Ok.n10 {M : zM} (h : z_Ok M) : zc10 M ≤ 8 := Nat.le_of_lt_succ h.1.1.lt
theorem z_Ok.n11 {M : zM} (h : z_Ok M) : zc11 M ≤ 12 := Nat.le_of_lt_succ h.1.2.1.lt
theorem z_Ok.n12 {M : zM} (h : z_Ok M) : zc12 M ≤ 6 := Nat.le_of_lt_succ h.1.2.2.1.lt
theorem z_Ok.n13 {M : zM} (h : z_Ok M) : zc13 M ≤ 3 := Nat.le_of_lt_succ h.1.2.2.2.lt
theorem z_Fx.c10 {M M' : zM} (h : z_Fx M M') : M' 0 10 = M 0 10 := h 0 10 rfl
theorem z_Fx.c11 {M M' : zM} (h : z_Fx M M') : M' 0 11 = M 0 11 := h 0 11 rfl
theorem z_Fx.c12 {M M' : zM} (h : z_Fx M M') : M' 0 12 = M 0 12 := h 0 12 rfl
theorem z_Fx.c13 {M M' : zM} (h : z_Fx M M') : M' 0 13 = M 0 13 := h 0 13 rfl
theorem z_Ok.fx {M M' : zM} (h : z_Ok M) (hf : z_Fx M M') : z_Ok M' := by
  obtain ⟨⟨a1, a2, a3, a4⟩, b1, b2, b3, b4, b5, b6⟩ := h
  refine ⟨⟨?_, ?_, ?_, ?_⟩, ?_, ?_, ?_, ?_, ?_, ?_⟩
  · rw [hf.c10]; exact a1
  · rw [hf.c11]; exact a2
  · rw [hf.c12]; exact a3
  · rw [hf.c13]; exact a4
  · intro f h; rw [hf (40 + f) 0 (by rw [zk_f h]; rfl)]; exact b1 f h
  · intro f h; rw [hf (40 + f) 1 (by rw [zk_f h]; rfl)]; exact b2 f h
  · intro f h; rw [hf (60 + f) 0 (by rw [zk_v h]; rfl)]; exact b3 f h
  · intro f h; rw [hf (70 + f) 0 (by rw [zk_s h]; rfl)]; exact b4 f h
  · intro f h; rw [hf (20 + f) 2 (by rw [zk_b h]; rfl)]; exact b5 f h
  · intro f h; rw [hf (60 + f) 1 (by rw [zk_v h]; rfl)]; exact b6 f h
/-- a loop's end and its body, by its counter -/
theorem z_ge {k N : Nat} {x y : Int32} (hy : y = nI N) (hx : x = nI k) (hk : k ≤ N) (hN : N < 2 ^ 31) (h : y ≤ x) : k = N := by
  subst hy hx
  rcases Nat.lt_or_ge k N with h1 | h1
  · exact absurd h (nI_ge h1 hN)
  · omega
theorem z_lt {k N : Nat} {x y : Int32} (hy : y = nI N) (hx : x = nI k) (hk : k ≤ N) (hN : N < 2 ^ 31) (h : ¬ y ≤ x) : k < N := by
  subst hy hx
  rcases Nat.lt_or_ge k N with h1 | h1
  · exact h1
  · exact absurd (nI_le h1 (by omega)) h
theorem z_ix.mono {x : Int32} {n N : Nat} (h : z_ix x n) (hn : n ≤ N) : z_ix x N := by
  obtain ⟨k, h1, h2, h3⟩ := h
  exact ⟨k, Nat.lt_of_lt_of_le h1 hn, h2, h3⟩
abbrev z_ni (x y : Int32) : Prop := ¬ x < 0 ∧ ¬ y ≤ x
theorem z_ni_of {x y : Int32} {N : Nat} (h : z_ix x N) (hy : y = nI N) (hN : N < 2 ^ 31 := by decide) : z_ni x y := by
  obtain ⟨k, h1, h2, h3⟩ := h
  subst h3 hy
  exact ⟨nI_pos h2, nI_ge h1 hN⟩
abbrev z_rm (x y : Int32) : Prop := ¬ y ≤ x
theorem z_rm_of {x y : Int32} {n N : Nat} (h : n < N) (hx : x = nI n) (hy : y = nI N) (hN : N < 2 ^ 31) : z_rm x y := by
  subst hx hy
  exact nI_ge h hN
theorem z_ix_rg {x lo hi : Int32} (h : z_rg x lo hi) (hl : 0 ≤ lo) (hh : hi.toInt.toNat < 2 ^ 31 - 1) : z_ix x (hi.toInt.toNat + 1) := by
  obtain ⟨h1, h2⟩ := h
  rw [Int32.lt_iff_toInt_lt] at h1 h2
  rw [Int32.le_iff_toInt_le, Int32.toInt_zero] at hl
  refine ⟨x.toInt.toNat, by omega, by omega, ?_⟩
  apply Int32.toInt_inj.mp
  rw [nI_toInt (by omega)]
  omega
theorem z_rg_k {k N : Nat} {x hi : Int32} (hx : x = nI k) (hk : k < N + 1) (hN : N < 2 ^ 31) (hh : hi = nI N) : z_rg x 0 hi := by
  subst hx hh
  exact ⟨nI_pos (by omega), nI_nlt (by omega) hN⟩
theorem z_nx {k : Nat} {x y : Int32} (hx : x = nI k) (hy : y = x + 1) : y = nI (k + 1) := by rw [hy, hx, nI_succ]
def zrow (M : zM) (i : Nat) (f : Nat → Int32) : zM := fun j k => if j = i then f k else M j k
theorem z_cp {p : Program} {l : Launch} {e : Env} {R : Room} {s : State} {m : MethodId} {args : Array Value} {below : List Frame} {meth : Method} {c : Code} {H : Heap} {locs : List Loc} {cells slots : Nat} {Q : State → Prop} {cc : ByteArray} {pc : Nat} {ls : Array Slot} {rest : List Value} {dC : Nat → ClassId} {dI : Nat → Nat → Nat} {ca : Nat → ClassId} {tys : List (ClassId × FieldType)} {A : Nat → Prop} {H0 : Heap} {ad ad2 : Nat → Nat} {M N : zM}
    (hexec : p.tables.exec = Jvm.exec) (hb : c.code = cc) (hml : c.maxLocals = ls.size) {own : String} {index : Nat} (hown : s.vm.findClass own = some m.cls) (hlink : (Cond.methodLink own index arraycopyName).before args s = true) (hnat : (Cond.native arraycopyName).before args s = true) (hstat : (Cond.static arraycopyName).before args s = true) (hini : (Cond.initialized "java/lang/System").before args s = true)
    (hK : va_K (dC, dI) vwCl tys s) (hH : z_H (dC, dI) vwCl zf ca zd ad M H) (hG : z_H (dC, dI) vwCl zf ca zd ad2 N H) (hI : z_I zd ad) (hS : va_S A H0 H locs) (hA : ∀ q, z_A zd ad q → A q) {i j t0 : Nat} (hki : zk i = 100) (hkj : zk j = 100) (ht : tys[t0]? = some (ca 100, .int))
    {n : Int32} (h3 : ¬ n < 0) (h4 : n.toNatClampNeg ≤ zn j) (h5 : n.toNatClampNeg ≤ zn i)
    (hframes : 1 ≤ R.frames) (hlocals : (rest.map fun v => v.category).sum + (nativeFrameWords "java/lang/System" "arraycopy" 5 + 11) ≤ R.locals) (hdg : decode cc pc = .ok (.invokestatic index, 3))
    (kk : ∀ (H1 : Heap) (locs1 : List Loc), z_H (dC, dI) vwCl zf ca zd ad (zrow M i (va_cpy (N j) (M i) 0 0 n.toNatClampNeg)) H1 → (∀ q : Nat, q ≠ ad i → H1[q]? = H[q]?) → va_S A H0 H1 locs1 → W p l e R s m args below meth c H1 locs1 cells slots Q (F0 m (pc + 3) ls rest)) : W p l e R s m args below meth c H locs cells slots Q (F0 m pc ls (.int n :: .int 0 :: .ref (ad i) :: .int 0 :: .ref (ad2 j) :: rest)) := by
  obtain ⟨dd, rfl⟩ : ∃ z, z = i := ⟨_, rfl⟩
  obtain ⟨ss, rfl⟩ : ∃ z, z = j := ⟨_, rfl⟩
  have h1 : ¬ (0 : Int32) < 0 := by decide
  have h2 : ¬ (0 : Int32) < 0 := by decide
  have hz : (0 : Int32).toNatClampNeg = 0 := by decide
  have h4 : (0 : Int32).toNatClampNeg + n.toNatClampNeg ≤ zn ss := by rw [hz]; omega
  have h5 : (0 : Int32).toNatClampNeg + n.toNatClampNeg ≤ zn dd := by rw [hz]; omega
  have nn : ∀ z : Int32, ¬ z < 0 → z.toInt = (z.toNatClampNeg : Int) := by
    intro z hz
    have hz0 : (0 : Int) ≤ z.toInt := by
      have := Int32.not_lt.mp hz
      simpa using Int32.le_iff_toInt_le.mp this
    show z.toInt = ((z.toInt.toNat : Nat) : Int)
    omega
  intro T hT X
  have hc0 : H[ad2 ss]? = some (vp_cell (ca 100) (zn ss, .inl (N ss))) := by have := hG ss (by show zk ss < 200; omega); rw [z_E_a hkj] at this; exact this
  have hc1 : H[ad dd]? = some (vp_cell (ca 100) (zn dd, .inl (M dd))) := by have := hH dd (by show zk dd < 200; omega); rw [z_E_a hki] at this; exact this
  obtain ⟨-, k0, hk0, cm0, hkk0⟩ := (hK.2 t0 _ ht).1 (zn ss) (fun j => .int ((N ss) j))
  obtain ⟨-, k1, hk1, cm1, hkk1⟩ := (hK.2 t0 _ ht).1 (zn dd) (fun j => .int ((M dd) j))
  obtain ⟨vm', X', step⟩ := X.arraycopy hexec hown hlink hnat hstat hini (src := ad2 ss) (dst := ad dd) (cs := vp_cell (ca 100) ((zn ss), .inl (N ss))) (cd := vp_cell (ca 100) ((zn dd), .inl (M dd))) (srcPos := 0) (destPos := 0) (n := n) (by rw [hT]; exact hc0) (by rw [hT]; exact hc1)
    (fun _ h => by cases h) (fun _ h => by cases h) (fun h => by cases h) (fun h => by cases h) hk0 hk1 hkk0 hkk1 (by simp [(show refKind .int = false from rfl)]) h1 h2 h3
    (by rw [nn 0 h1, nn n h3]; show ¬ _ > ((arrV (ca 100) (zn ss) (fun j => .int ((N ss) j))).slots.size : Int); rw [arrV_size]; omega)
    (by rw [nn 0 h2, nn n h3]; show ¬ _ > ((arrV (ca 100) (zn dd) (fun j => .int ((M dd) j))).slots.size : Int); rw [arrV_size]; omega)
    (fun vm₁ _ i hi => by
      have e : (vp_cell (ca 100) ((zn ss), .inl (N ss))).slots.getD ((0 : Int32).toNatClampNeg + i) .null = .int ((N ss) ((0 : Int32).toNatClampNeg + i)) := by
        show (arrV (ca 100) (zn ss) (fun j => .int ((N ss) j))).slots.getD _ _ = _
        rw [Array.getD_eq_getD_getElem?, arrV_read _ _ (by omega)]
        rfl
      refine ⟨?_, ?_⟩
      · rw [e]
        exact rfl
      · rw [e]
        exact trivial)
    (g := F0 m pc ls (.int n :: .int 0 :: .ref (ad dd) :: .int 0 :: .ref (ad2 ss) :: rest)) rfl (by rw [hml]) (rest := rest) rfl (by rw [hb]; exact hdg) hframes (by show 2 * 0 + _ + _ ≤ _; omega)
  have e1 : copied (vp_cell (ca 100) ((zn ss), .inl (N ss))) (vp_cell (ca 100) ((zn dd), .inl (M dd))) 0 0 n = vp_cell (ca 100) ((zn dd), .inl (va_cpy (N ss) (M dd) (0 : Int32).toNatClampNeg (0 : Int32).toNatClampNeg n.toNatClampNeg)) := va_copied (fun z => .int z) (ca 100) (ca 100) (N ss) (M dd) h4
  rw [e1] at X' step
  have hl : (ad dd) < H.size := (Array.getElem?_eq_some_iff.mp hc1).1
  have hheap : ((T.setVm vm').setCell (ad dd) (vp_cell (ca 100) ((zn dd), .inl (va_cpy (N ss) (M dd) (0 : Int32).toNatClampNeg (0 : Int32).toNatClampNeg n.toNatClampNeg)))).heap = H.setIfInBounds (ad dd) (vp_cell (ca 100) ((zn dd), .inl (va_cpy (N ss) (M dd) (0 : Int32).toNatClampNeg (0 : Int32).toNatClampNeg n.toNatClampNeg))) := by rw [← hT]; rfl
  have oq : ∀ q : Nat, q ≠ (ad dd) → (H.setIfInBounds (ad dd) (vp_cell (ca 100) ((zn dd), .inl (va_cpy (N ss) (M dd) (0 : Int32).toNatClampNeg (0 : Int32).toNatClampNeg n.toNatClampNeg))))[q]? = H[q]? := fun q hq => by simp [Array.getElem?_setIfInBounds, Ne.symm hq]
  have hd : z_A zd ad (ad dd) := z_A.in (show zk dd < 200 by omega)
  have hw : z_H (dC, dI) vwCl zf ca zd ad (zrow M dd (va_cpy (N ss) (M dd) 0 0 n.toNatClampNeg)) (H.setIfInBounds (ad dd) (vp_cell (ca 100) ((zn dd), .inl (va_cpy (N ss) (M dd) (0 : Int32).toNatClampNeg (0 : Int32).toNatClampNeg n.toNatClampNeg)))) := by
    intro q hq
    by_cases hqd : q = dd
    · subst hqd
      rw [z_E_a hki]
      show (H.setIfInBounds (ad q) _)[ad q]? = some _
      have : zrow M q (va_cpy (N ss) (M q) 0 0 n.toNatClampNeg) q = va_cpy (N ss) (M q) 0 0 n.toNatClampNeg := by funext k; simp [zrow]
      rw [this, hz]
      simp [Array.getElem?_setIfInBounds, hl]
    · have h0 := (hH q hq).kept (H1 := H.setIfInBounds (ad dd) (vp_cell (ca 100) ((zn dd), .inl (va_cpy (N ss) (M dd) (0 : Int32).toNatClampNeg (0 : Int32).toNatClampNeg n.toNatClampNeg)))) (oq (ad q) (fun z => hqd (hI q dd hq (show zk dd < 200 by omega) z)))
      have h1 : z_E zf ca zd ad (zrow M dd (va_cpy (N ss) (M dd) 0 0 n.toNatClampNeg)) q = z_E zf ca zd ad M q := by
        have : zrow M dd (va_cpy (N ss) (M dd) 0 0 n.toNatClampNeg) q = M q := by funext k; simp [zrow, hqd]
        unfold z_E
        rw [this]
      rw [h1]
      exact h0
  obtain ⟨t, a1, b1⟩ := kk _ _ hw oq ⟨by simp; exact hS.1, fun q g1 g2 => by
      rw [oq q (fun e => g2 (by rw [e]; exact hA _ hd))]
      exact hS.2.1 q g1 g2, fun q hq => by
      rcases List.mem_append.mp hq with h | h
      · exact hS.2.2 q h
      · obtain ⟨z, -, hz⟩ := List.mem_map.mp h
        rw [← hz]
        exact hA _ hd⟩ _ hheap X'
  exact ⟨t, step t a1, b1⟩
theorem z_gt3 {k : Nat} {x : Int32} (hx : x = nI (3 * k)) (hk : k ≤ 4) (h : (9 : Int32) < x) : k = 4 := by
  subst hx
  rcases (show k = 0 ∨ k = 1 ∨ k = 2 ∨ k = 3 ∨ k = 4 by omega) with h1 | h1 | h1 | h1 | h1 <;> subst h1 <;> first | rfl | exact absurd h (by decide)
theorem z_ngt3 {k : Nat} {x : Int32} (hx : x = nI (3 * k)) (hk : k ≤ 4) (h : ¬ (9 : Int32) < x) : k < 4 := by
  subst hx
  rcases (show k = 0 ∨ k = 1 ∨ k = 2 ∨ k = 3 ∨ k = 4 by omega) with h1 | h1 | h1 | h1 | h1 <;> subst h1 <;> first | omega | exact absurd (by decide) h
theorem z_nx3 {k : Nat} {x y : Int32} (hx : x = nI (3 * k)) (hy : y = x + 3) : y = nI (3 * (k + 1)) := by
  rw [hy, hx, show 3 * (k + 1) = 3 * k + 1 + 1 + 1 by omega, nI_succ, nI_succ, nI_succ, Int32.add_assoc, Int32.add_assoc]
  rfl


