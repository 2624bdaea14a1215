/-- the words on nest mates out of the tables -/
def zw_nest : List Cond := [.fieldLinkNest "Steamfield" 47 "Steamfield$Water" "mass" "I" "Steamfield", .fieldLinkNest "Steamfield$Well" 40 "Steamfield$Water" "mass" "I" "Steamfield", .fieldLinkNest "Steamfield$Block" 27 "Steamfield$Water" "mass" "I" "Steamfield", .fieldLinkNest "Steamfield$Land" 204 "Steamfield$Water" "mass" "I" "Steamfield", .fieldLinkNest "Steamfield" 52 "Steamfield$Water" "heat" "I" "Steamfield", .fieldLinkNest "Steamfield$Block" 30 "Steamfield$Water" "heat" "I" "Steamfield", .fieldLinkNest "Steamfield$Land" 213 "Steamfield$Water" "heat" "I" "Steamfield", .fieldLinkNest "Steamfield" 55 "Steamfield$Water" "salt" "I" "Steamfield", .fieldLinkNest "Steamfield$Block" 43 "Steamfield$Water" "salt" "I" "Steamfield", .fieldLinkNest "Steamfield$Land" 233 "Steamfield$Water" "salt" "I" "Steamfield", .fieldLinkNest "Steamfield$Well" 45 "Steamfield$Water" "tracer" "I" "Steamfield", .fieldLinkNest "Steamfield$Block" 49 "Steamfield$Water" "tracer" "I" "Steamfield", .fieldLinkNest "Steamfield" 139 "Steamfield$Water" "tracer" "I" "Steamfield", .fieldLinkNest "Steamfield$Land" 269 "Steamfield$Water" "tracer" "I" "Steamfield", .fieldLinkNest "Steamfield" 158 "Steamfield$Plant" "size" "I" "Steamfield", .fieldLinkNest "Steamfield$Land" 242 "Steamfield$Plant" "size" "I" "Steamfield", .fieldLinkNest "Steamfield" 163 "Steamfield$Plant" "isRunning" "Z" "Steamfield", .fieldLinkNest "Steamfield$Land" 239 "Steamfield$Plant" "isRunning" "Z" "Steamfield", .fieldLinkNest "Steamfield$Land" 245 "Steamfield$Plant" "power" "I" "Steamfield", .fieldLinkNest "Steamfield" 236 "Steamfield$Plant" "power" "I" "Steamfield", .fieldLinkNest "Steamfield$Land" 248 "Steamfield$Plant" "powerEver" "I" "Steamfield", .fieldLinkNest "Steamfield" 239 "Steamfield$Plant" "powerEver" "I" "Steamfield", .fieldLinkNest "Steamfield" 166 "Steamfield$Plant" "need" "I" "Steamfield", .fieldLinkNest "Steamfield$Land" 257 "Steamfield$Plant" "need" "I" "Steamfield", .fieldLinkNest "Steamfield$Land" 260 "Steamfield$Plant" "townHeat" "I" "Steamfield", .fieldLinkNest "Steamfield" 242 "Steamfield$Plant" "townHeat" "I" "Steamfield", .fieldLinkNest "Steamfield" 62 "Steamfield$Books" "told" "LSteamfield$Water;" "Steamfield", .fieldLinkNest "Steamfield$Land" 133 "Steamfield$Books" "spilled" "LSteamfield$Water;" "Steamfield", .fieldLinkNest "Steamfield" 218 "Steamfield$Books" "spilled" "LSteamfield$Water;" "Steamfield", .fieldLinkNest "Steamfield$Land" 136 "Steamfield$Books" "sprung" "LSteamfield$Water;" "Steamfield", .fieldLinkNest "Steamfield" 221 "Steamfield$Books" "sprung" "LSteamfield$Water;" "Steamfield", .fieldLinkNest "Steamfield$Land" 251 "Steamfield$Books" "used" "I" "Steamfield", .fieldLinkNest "Steamfield" 212 "Steamfield$Books" "used" "I" "Steamfield", .fieldLinkNest "Steamfield$Land" 254 "Steamfield$Books" "vented" "I" "Steamfield", .fieldLinkNest "Steamfield" 215 "Steamfield$Books" "vented" "I" "Steamfield", .fieldLinkNest "Steamfield" 43 "Steamfield$Block" "water" "LSteamfield$Water;" "Steamfield", .fieldLinkNest "Steamfield$Land" 123 "Steamfield$Block" "water" "LSteamfield$Water;" "Steamfield", .fieldLinkNest "Steamfield" 35 "Steamfield$Block" "volume" "I" "Steamfield", .fieldLinkNest "Steamfield$Land" 117 "Steamfield$Block" "volume" "I" "Steamfield", .fieldLinkNest "Steamfield" 40 "Steamfield$Block" "owner" "I" "Steamfield", .fieldLinkNest "Steamfield$Land" 114 "Steamfield$Block" "owner" "I" "Steamfield", .fieldLinkNest "Steamfield" 88 "Steamfield$Face" "one" "I" "Steamfield", .fieldLinkNest "Steamfield$Land" 180 "Steamfield$Face" "one" "I" "Steamfield", .fieldLinkNest "Steamfield" 93 "Steamfield$Face" "other" "I" "Steamfield", .fieldLinkNest "Steamfield$Land" 183 "Steamfield$Face" "other" "I" "Steamfield", .fieldLinkNest "Steamfield" 96 "Steamfield$Face" "open" "I" "Steamfield", .fieldLinkNest "Steamfield$Land" 194 "Steamfield$Face" "open" "I" "Steamfield", .fieldLinkNest "Steamfield$Land" 207 "Steamfield$Face" "flow" "I" "Steamfield", .fieldLinkNest "Steamfield" 202 "Steamfield$Face" "flow" "I" "Steamfield", .fieldLinkNest "Steamfield" 106 "Steamfield$Well" "block" "I" "Steamfield", .fieldLinkNest "Steamfield$Land" 220 "Steamfield$Well" "block" "I" "Steamfield", .fieldLinkNest "Steamfield" 111 "Steamfield$Well" "isInjector" "Z" "Steamfield", .fieldLinkNest "Steamfield$Land" 139 "Steamfield$Well" "isInjector" "Z" "Steamfield", .fieldLinkNest "Steamfield" 131 "Steamfield$Well" "valve" "I" "Steamfield", .fieldLinkNest "Steamfield$Land" 143 "Steamfield$Well" "valve" "I" "Steamfield", .fieldLinkNest "Steamfield" 142 "Steamfield$Well" "scale" "I" "Steamfield", .fieldLinkNest "Steamfield$Land" 223 "Steamfield$Well" "scale" "I" "Steamfield", .fieldLinkNest "Steamfield" 151 "Steamfield$Well" "crust" "I" "Steamfield", .fieldLinkNest "Steamfield" 184 "Steamfield$Well" "flow" "I" "Steamfield", .fieldLinkNest "Steamfield" 187 "Steamfield$Well" "steam" "I" "Steamfield", .fieldLinkNest "Steamfield" 190 "Steamfield$Well" "tracer" "I" "Steamfield", .fieldLinkNest "Steamfield" 191 "Steamfield$Well" "flowEver" "I" "Steamfield", .fieldLinkNest "Steamfield" 122 "Steamfield$Spring" "block" "I" "Steamfield", .fieldLinkNest "Steamfield$Land" 275 "Steamfield$Spring" "block" "I" "Steamfield", .fieldLinkNest "Steamfield" 125 "Steamfield$Spring" "level" "I" "Steamfield", .fieldLinkNest "Steamfield$Land" 276 "Steamfield$Spring" "level" "I" "Steamfield", .fieldLinkNest "Steamfield" 128 "Steamfield$Spring" "promise" "I" "Steamfield", .fieldLinkNest "Steamfield" 194 "Steamfield$Spring" "flow" "I" "Steamfield", .fieldLinkNest "Steamfield" 195 "Steamfield$Spring" "lacked" "I" "Steamfield", .fieldLinkNest "Steamfield$Land" 283 "Steamfield$Spring" "lacked" "I" "Steamfield", .fieldLinkNest "Steamfield" 198 "Steamfield$Spring" "flowEver" "I" "Steamfield", .fieldLinkNest "Steamfield$Land" 120 "Steamfield$Spring" "lackedEver" "I" "Steamfield", .fieldLinkNest "Steamfield" 199 "Steamfield$Spring" "lackedEver" "I" "Steamfield", .fieldLinkNest "Steamfield" 31 "Steamfield$Land" "blocks" "[LSteamfield$Block;" "Steamfield", .fieldLinkNest "Steamfield" 84 "Steamfield$Land" "faces" "[LSteamfield$Face;" "Steamfield", .fieldLinkNest "Steamfield" 102 "Steamfield$Land" "wells" "[LSteamfield$Well;" "Steamfield", .fieldLinkNest "Steamfield" 118 "Steamfield$Land" "springs" "[LSteamfield$Spring;" "Steamfield", .fieldLinkNest "Steamfield" 203 "Steamfield$Land" "pond" "LSteamfield$Water;" "Steamfield", .fieldLinkNest "Steamfield" 154 "Steamfield$Land" "plant" "LSteamfield$Plant;" "Steamfield", .fieldLinkNest "Steamfield" 58 "Steamfield$Land" "books" "LSteamfield$Books;" "Steamfield", .fieldLinkNest "Steamfield" 145 "Steamfield$Land" "coins" "[I" "Steamfield", .fieldLinkNest "Steamfield" 23 "Steamfield$Land" "blockCount" "I" "Steamfield", .fieldLinkNest "Steamfield" 81 "Steamfield$Land" "faceCount" "I" "Steamfield", .fieldLinkNest "Steamfield" 99 "Steamfield$Land" "wellCount" "I" "Steamfield", .fieldLinkNest "Steamfield" 115 "Steamfield$Land" "springCount" "I" "Steamfield", .fieldLinkNest "Steamfield" 227 "Steamfield$Land" "now" "I" "Steamfield", .methodLinkNest "Steamfield$Land" 37 ⟨"Steamfield$Water", "<init>", "()V"⟩ "Steamfield", .methodLinkNest "Steamfield$Land" 44 ⟨"Steamfield$Plant", "<init>", "()V"⟩ "Steamfield", .methodLinkNest "Steamfield$Land" 51 ⟨"Steamfield$Books", "<init>", "()V"⟩ "Steamfield", .methodLinkNest "Steamfield$Books" 9 ⟨"Steamfield$Water", "<init>", "()V"⟩ "Steamfield", .methodLinkNest "Steamfield$Land" 66 ⟨"Steamfield$Block", "<init>", "()V"⟩ "Steamfield", .methodLinkNest "Steamfield$Block" 9 ⟨"Steamfield$Water", "<init>", "()V"⟩ "Steamfield", .methodLinkNest "Steamfield$Land" 67 ⟨"Steamfield$Face", "<init>", "()V"⟩ "Steamfield", .methodLinkNest "Steamfield$Land" 68 ⟨"Steamfield$Well", "<init>", "()V"⟩ "Steamfield", .methodLinkNest "Steamfield$Land" 69 ⟨"Steamfield$Spring", "<init>", "()V"⟩ "Steamfield"]
theorem zw_nest_ok : zw_nest.all z_nest = true := by decide +kernel
/-- which fields are references -/
def zf : Nat → List Bool
  | 0 => [true, false, false]
  | 1 => [true, true, true, false, false]
  | 2 => [false, false, false, false]
  | 3 => [true, true, true, true, true, true, true, true, true, true, false, false, false, false, false]
  | 4 => [false, false, false, false, false, false]
  | 5 => [false, false, false, false, false, false, false]
  | 6 => [false, false, false, false]
  | 7 => [false, false, false, false, false, false, false, false, false]
  | 8 => [true, true]
  | _ => []
/-- the ids of a land: 0 itself, 1 to 4 its rows of blocks, faces, wells, springs, 5 pond, 6 plant, 7 books, 8 coins, 9 shocks, 10 load, 11 told, 12 spilled, 13 sprung, 20.. blocks, 30.. their waters, 40.. faces, 60.. wells, 70.. springs -/
def zk (i : Nat) : Nat :=
  if i = 0 then 3 else if i = 1 then 101 else if i = 2 then 102 else if i = 3 then 103 else if i = 4 then 104 else if i = 5 then 6 else if i = 6 then 4 else if i = 7 then 1 else if i = 8 then 100 else if i = 9 then 100 else if i < 14 then 6 else if i < 20 then 999 else if i < 28 then 0 else if i < 30 then 999 else if i < 38 then 6 else if i < 40 then 999 else if i < 52 then 2 else if i < 60 then 999 else if i < 66 then 7 else if i < 70 then 999 else if i < 73 then 5 else 999
def zr (i k : Nat) : Option Nat :=
  if i = 0 then (if k < 10 then some (k + 1) else none)
  else if i = 1 then (if k < 8 then some (20 + k) else none)
  else if i = 2 then (if k < 12 then some (40 + k) else none)
  else if i = 3 then (if k < 6 then some (60 + k) else none)
  else if i = 4 then (if k < 3 then some (70 + k) else none)
  else if i = 7 then (if k < 3 then some (11 + k) else none)
  else if 20 ≤ i ∧ i < 28 then (if k = 0 then some (10 + i) else none)
  else none
def zn (i : Nat) : Nat := if i = 1 then 8 else if i = 2 then 12 else if i = 3 then 6 else if i = 4 then 3 else if i = 8 then 2 else if i = 9 then 4 else 0
abbrev zd : zD := (zk, zr, zn)
theorem zk_0 : zk 0 = 3 := by decide
theorem zk_1 : zk 1 = 101 := by decide
theorem zk_2 : zk 2 = 102 := by decide
theorem zk_3 : zk 3 = 103 := by decide
theorem zk_4 : zk 4 = 104 := by decide
theorem zk_5 : zk 5 = 6 := by decide
theorem zk_6 : zk 6 = 4 := by decide
theorem zk_7 : zk 7 = 1 := by decide
theorem zk_8 : zk 8 = 100 := by decide
theorem zk_9 : zk 9 = 100 := by decide
theorem zk_10 : zk 10 = 6 := by decide
theorem zk_11 : zk 11 = 6 := by decide
theorem zk_12 : zk 12 = 6 := by decide
theorem zk_13 : zk 13 = 6 := by decide
theorem zk_b {n : Nat} (h : n < 8) : zk (20 + n) = 0 := by
  unfold zk
  repeat rw [if_neg (by omega)]
  rw [if_pos (by omega)]
theorem zk_w {n : Nat} (h : n < 8) : zk (30 + n) = 6 := by
  unfold zk
  repeat rw [if_neg (by omega)]
  rw [if_pos (by omega)]
theorem zk_f {n : Nat} (h : n < 12) : zk (40 + n) = 2 := by
  unfold zk
  repeat rw [if_neg (by omega)]
  rw [if_pos (by omega)]
theorem zk_v {n : Nat} (h : n < 6) : zk (60 + n) = 7 := by
  unfold zk
  repeat rw [if_neg (by omega)]
  rw [if_pos (by omega)]
theorem zk_s {n : Nat} (h : n < 3) : zk (70 + n) = 5 := by
  unfold zk
  repeat rw [if_neg (by omega)]
  rw [if_pos (by omega)]
theorem zr_b {n : Nat} (h : n < 8) : zr (20 + n) 0 = some (30 + n) := by
  unfold zr
  repeat rw [if_neg (by omega)]
  rw [if_pos (by omega), if_pos rfl]
  congr 1
  omega
theorem zr_0 {k : Nat} (h : k < 10) : zr 0 k = some (k + 1) := by
  unfold zr
  rw [if_pos rfl, if_pos h]
theorem zr_7 {k : Nat} (h : k < 3) : zr 7 k = some (11 + k) := by
  unfold zr
  repeat rw [if_neg (by omega)]
  rw [if_pos rfl, if_pos h]
theorem zr_1 {k : Nat} (h : k < 8) : zr 1 k = some (20 + k) := by
  unfold zr
  repeat rw [if_neg (by omega)]
  rw [if_pos rfl, if_pos h]
theorem zr_2 {k : Nat} (h : k < 12) : zr 2 k = some (40 + k) := by
  unfold zr
  repeat rw [if_neg (by omega)]
  rw [if_pos rfl, if_pos h]
theorem zr_3 {k : Nat} (h : k < 6) : zr 3 k = some (60 + k) := by
  unfold zr
  repeat rw [if_neg (by omega)]
  rw [if_pos rfl, if_pos h]
theorem zr_4 {k : Nat} (h : k < 3) : zr 4 k = some (70 + k) := by
  unfold zr
  repeat rw [if_neg (by omega)]
  rw [if_pos rfl, if_pos h]
/-- the array classes' numbers -/
abbrev zt (ca : Nat → ClassId) : List (ClassId × FieldType) := [(ca 100, .int), (ca 101, .object "Steamfield$Block"), (ca 102, .object "Steamfield$Face"), (ca 103, .object "Steamfield$Well"), (ca 104, .object "Steamfield$Spring")]
theorem zx {n N : Nat} {x : Int32} (hx : x = nI n) (h : n < N) (hN : N < 2 ^ 31) : vp_in x N := by
  subst hx
  exact nI_in h hN
theorem zx_n {n : Nat} {x : Int32} (hx : x = nI n) (h : n < 2 ^ 31) : x.toNatClampNeg = n := by
  subst hx
  exact nI_clamp h
theorem z_nz {x : Int32} (h : ¬ x ≤ 0) : ¬ x = 0 := fun e => h (by rw [e]; exact Int32.le_refl _)
theorem z_nzl {x : Int32} (h : ¬ x ≤ 0) : ¬ x.toInt64 = 0 := by
  intro e
  apply h
  have h1 : x.toInt64.toInt = x.toInt := Int32.toInt_toInt64 x
  rw [e] at h1
  rw [Int32.le_iff_toInt_le, ← h1]
  decide
/-- a loop's steps, from 0 on -/
def zit {α : Type} (f : Nat → α → α) : Nat → α → α
  | 0, a => a
  | n + 1, a => f n (zit f n a)

