def bX8_digest_6 (M : zM) (N : zM) (k1 : Nat) (st : Int64) : Int64 :=
  let y4 : Int64 := st
  let i2 : Int32 := nI k1
  let y7 : Int64 := y4 * 31
  let x8 : Int32 := rX8_many M N i2
  let y9 : Int64 := x8.toInt64
  let y10 : Int64 := y7 + y9
  y10
def bX8_digest_47 (M : zM) (N : zM) (i13 : Int32) (k19 : Nat) (st : Int64) : Int64 :=
  let y22 : Int64 := st
  let i20 : Int32 := nI k19
  let y25 : Int64 := y22 * 31
  let x26 : Int32 := rX8_ofBlock M N i13 i20
  let y27 : Int64 := x26.toInt64
  let y28 : Int64 := y25 + y27
  y28
def bX8_digest_33 (M : zM) (N : zM) (k12 : Nat) (st : Int64) : Int64 :=
  let y15 : Int64 := st
  let i13 : Int32 := nI k12
  let x17 : Int32 := M 0 10
  let y22 : Int64 := (zit (bX8_digest_47 M N i13) (6) y15)
  y22
def bX8_digest_97 (M : zM) (i32 : Int32) (N34 : zM) (k39 : Nat) (st : Int64) : Int64 :=
  let y42 : Int64 := st
  let i40 : Int32 := nI k39
  let y45 : Int64 := y42 * 31
  let x46 : Int32 := rX8_ofWell M N34 i32 i40
  let y47 : Int64 := x46.toInt64
  let y48 : Int64 := y45 + y47
  y48
def bX8_digest_83 (M : zM) (k31 : Nat) (st : zM × Int64) : zM × Int64 :=
  let N34 : zM := st.1
  let y35 : Int64 := st.2
  let i32 : Int32 := nI k31
  let x37 : Int32 := M 0 12
  let y42 : Int64 := (zit (bX8_digest_97 M i32 N34) (9) y35)
  let y50 : Int64 := y42 * 31
  let x51 : Int32 := rX8_coldIn M N34 i32 100
  let M52 : zM := gX8_coldIn M N34 i32 100
  let y53 : Int64 := x51.toInt64
  let y54 : Int64 := y50 + y53
  (M52, y54)
def bX8_digest_148 (M : zM) (N34 : zM) (k56 : Nat) (st : Int64) : Int64 :=
  let y59 : Int64 := st
  let i57 : Int32 := nI k56
  let x61 : Int32 := M 0 11
  let y63 : Int64 := y59 * 31
  let x64 : Int32 := rX8_ofFace M N34 i57 1
  let y65 : Int64 := x64.toInt64
  let y66 : Int64 := y63 + y65
  let y67 : Int64 := y66 * 31
  let x68 : Int32 := rX8_ofFace M N34 i57 0
  let y69 : Int64 := x68.toInt64
  let y70 : Int64 := y67 + y69
  y70
def bX8_digest_209 (M : zM) (i73 : Int32) (N75 : zM) (k80 : Nat) (st : Int64) : Int64 :=
  let y83 : Int64 := st
  let i81 : Int32 := nI k80
  let y86 : Int64 := y83 * 31
  let x87 : Int32 := rX8_ofSpring M N75 i73 i81
  let y88 : Int64 := x87.toInt64
  let y89 : Int64 := y86 + y88
  y89
def bX8_digest_239 (M : zM) (i73 : Int32) (k91 : Nat) (st : zM × Int64) : zM × Int64 :=
  let N94 : zM := st.1
  let y95 : Int64 := st.2
  let i92 : Int32 := nI k91
  let x97 : Int32 := M 0 12
  let y99 : Int64 := y95 * 31
  let x100 : Int32 := rX8_causedBy M N94 i73 i92 3
  let M101 : zM := gX8_causedBy M N94 i73 i92 3
  let y102 : Int64 := x100.toInt64
  let y103 : Int64 := y99 + y102
  (M101, y103)
def bX8_digest_195 (M : zM) (k72 : Nat) (st : zM × Int64) : zM × Int64 :=
  let N75 : zM := st.1
  let y76 : Int64 := st.2
  let i73 : Int32 := nI k72
  let x78 : Int32 := M 0 13
  let y83 : Int64 := (zit (bX8_digest_209 M i73 N75) (4) y76)
  let N94 : zM := (zit (bX8_digest_239 M i73) (zc12 M) (N75, y83)).1
  let y95 : Int64 := (zit (bX8_digest_239 M i73) (zc12 M) (N75, y83)).2
  (N94, y95)
def bX8_digest_281 (M : zM) (N75 : zM) (k106 : Nat) (st : Int64) : Int64 :=
  let y109 : Int64 := st
  let i107 : Int32 := nI k106
  let y112 : Int64 := y109 * 31
  let x113 : Int32 := rX8_pond M N75 i107
  let y114 : Int64 := x113.toInt64
  let y115 : Int64 := y112 + y114
  y115
def bX8_digest_315 (M : zM) (N75 : zM) (i118 : Int32) (k123 : Nat) (st : Int64) : Int64 :=
  let y126 : Int64 := st
  let i124 : Int32 := nI k123
  let y129 : Int64 := y126 * 31
  let x130 : Int32 := rX8_ofOwner M N75 i118 i124
  let y131 : Int64 := x130.toInt64
  let y132 : Int64 := y129 + y131
  y132
def bX8_digest_307 (M : zM) (N75 : zM) (k117 : Nat) (st : Int64) : Int64 :=
  let y120 : Int64 := st
  let i118 : Int32 := nI k117
  let y126 : Int64 := (zit (bX8_digest_315 M N75 i118) (2) y120)
  y126
def bX8_digest_350 (M : zM) (N75 : zM) (k135 : Nat) (st : Int64) : Int64 :=
  let y138 : Int64 := st
  let i136 : Int32 := nI k135
  let y141 : Int64 := y138 * 31
  let x142 : Int32 := rX8_mass M N75 i136
  let y143 : Int64 := x142.toInt64
  let y144 : Int64 := y141 + y143
  y144
def gX8_digest (M : zM) (N : zM)  : zM :=
  let y4 : Int64 := (zit (bX8_digest_6 M N) (13) 58177)
  let y15 : Int64 := (zit (bX8_digest_33 M N) (zc10 M) y4)
  let N34 : zM := (zit (bX8_digest_83 M) (zc12 M) (N, y15)).1
  let y35 : Int64 := (zit (bX8_digest_83 M) (zc12 M) (N, y15)).2
  let y59 : Int64 := (zit (bX8_digest_148 M N34) (zc11 M) y35)
  let N75 : zM := (zit (bX8_digest_195 M) (zc13 M) (N34, y59)).1
  let y76 : Int64 := (zit (bX8_digest_195 M) (zc13 M) (N34, y59)).2
  let y109 : Int64 := (zit (bX8_digest_281 M N75) (4) y76)
  let y120 : Int64 := (zit (bX8_digest_307 M N75) (2) y109)
  let y138 : Int64 := (zit (bX8_digest_350 M N75) (7) y120)
  let y146 : Int64 := y138 * 31
  let x147 : Int32 := rX8_isClosed M N75 
  let x149 : Int32 := if x147 = 0 then 0 else 1
  let y151 : Int64 := x149.toInt64
  let y152 : Int64 := y146 + y151
  let y153 : Int64 := y152 * 31
  let x154 : Int32 := rX8_wouldGive M N75 4
  let M155 : zM := gX8_wouldGive M N75 4
  let y156 : Int64 := x154.toInt64
  let y157 : Int64 := y153 + y156
  let y158 : Int64 := y157 * 31
  let x159 : Int32 := rX8_bestValves M M155 3
  let M160 : zM := gX8_bestValves M M155 3
  let y161 : Int64 := x159.toInt64
  let y162 : Int64 := y158 + y161
  M160
def rX8_digest (M : zM) (N : zM)  : Int64 :=
  let y4 : Int64 := (zit (bX8_digest_6 M N) (13) 58177)
  let y15 : Int64 := (zit (bX8_digest_33 M N) (zc10 M) y4)
  let N34 : zM := (zit (bX8_digest_83 M) (zc12 M) (N, y15)).1
  let y35 : Int64 := (zit (bX8_digest_83 M) (zc12 M) (N, y15)).2
  let y59 : Int64 := (zit (bX8_digest_148 M N34) (zc11 M) y35)
  let N75 : zM := (zit (bX8_digest_195 M) (zc13 M) (N34, y59)).1
  let y76 : Int64 := (zit (bX8_digest_195 M) (zc13 M) (N34, y59)).2
  let y109 : Int64 := (zit (bX8_digest_281 M N75) (4) y76)
  let y120 : Int64 := (zit (bX8_digest_307 M N75) (2) y109)
  let y138 : Int64 := (zit (bX8_digest_350 M N75) (7) y120)
  let y146 : Int64 := y138 * 31
  let x147 : Int32 := rX8_isClosed M N75 
  let x149 : Int32 := if x147 = 0 then 0 else 1
  let y151 : Int64 := x149.toInt64
  let y152 : Int64 := y146 + y151
  let y153 : Int64 := y152 * 31
  let x154 : Int32 := rX8_wouldGive M N75 4
  let M155 : zM := gX8_wouldGive M N75 4
  let y156 : Int64 := x154.toInt64
  let y157 : Int64 := y153 + y156
  let y158 : Int64 := y157 * 31
  let x159 : Int32 := rX8_bestValves M M155 3
  let M160 : zM := gX8_bestValves M M155 3
  let y161 : Int64 := x159.toInt64
  let y162 : Int64 := y158 + y161
  y162
set_option maxHeartbeats 4000000 in
set_option maxRecDepth 100000 in
theorem m_X8_digest (l : Launch) (dC : Nat → ClassId) (dI : Nat → Nat → Nat) (ca : Nat → ClassId) (sf : Nat) (ad : Nat → Nat) (hI : z_I zd ad) (ad2 : Nat → Nat) (hI2 : z_I zd ad2) (hq : zSep sf ad ad2) (M : zM) (N : zM) (hOk0 : z_Ok M) (h_run : M 6 1 = 0 ∨ M 6 1 = 1) : Met l yX8_digest wsX8_digest ({ frames := 6, cells := 0, slots := 0, locals := 148 }) (z_Pc (dC, dI) vwCl (zt ca) zw_nest [.ref sf] (fun H => zT dC dI ca sf (ad 0) (ad2 0) H ∧ zW dC dI ca ad M H ∧ zW dC dI ca ad2 N H)) (z_Ql (rX8_digest M N ) (fun H => zT dC dI ca sf (ad 0) (ad2 0) H ∧ zW dC dI ca ad M H ∧ zW dC dI ca ad2 (gX8_digest M N ) H) (zA2 ad ad2)) 0 0 (zA2 ad ad2) := by
  refine Met.ofW (cc := cX8_digest) (maxL := 5) (ret := (some .long)) (by decide) rfl ?_
  intro p e s m args below meth c s₁ B9 hml hv
  obtain ⟨rfl, ⟨hT, hH, hG⟩, hK, hN⟩ := hv
  have hx := B9.exec
  have hb := B9.bytes
  have hr := B9.returns
  have hts := atoms_spec (ws := wsX8_digest) B9.pre
  have hown : s.vm.findClass RX8 = some m.cls := findClass_of_methodNamed B9.named
  have hlocks := B9.notSynchronized
  have hS : va_S (zA2 ad ad2) s.heap s.heap [] := va_S.rf
  have hOk := hOk0
  have hFx : z_Fx M M := z_Fx.rf
  have hT : zT dC dI ca sf (ad 0) (ad2 0) s.heap := hT
  have hH : zW dC dI ca ad M s.heap := hH
  have hG : zW dC dI ca ad2 N s.heap := hG
  have hinX3 : ∀ w ∈ u_ws RX3 TX3 15, w ∈ wsX8_digest := by decide +kernel
  have hinX8 : ∀ w ∈ u_ws RX8 TX8 2, w ∈ wsX8_digest := by decide +kernel
  have hl := lv_entry ([.ref sf]) (n := 5) (Nat.le_of_ble_eq_true rfl)
  rw [lg_entry_eq]
  generalize (lg_sl ([.ref sf]) ++ List.replicate (5 - (lg_sl ([.ref sf])).length) Slot.unset).toArray = ls at hl ⊢
  have hl : lv_has ls 5 [(0, .ref sf)] := hl
  refine lv_ldc2 (v := 58177) hx hb hown (hts (.constantLong RX8 257 58177) (by decide +kernel)) dX8_digest_0 ?_
  refine lv_lstore_n (lv' := [(1, .long 58177), (0, .ref sf)]) hx hb dX8_digest_3 rfl hl (by decide) rfl (fun ls hl => ?_)
  refine lv_iconst (v := 0) hx hb dX8_digest_4 (by decide) ?_
  refine lv_istore_n (lv' := [(3, .int 0), (1, .long 58177), (0, .ref sf)]) hx hb dX8_digest_5 rfl hl (by decide) rfl (fun ls hl => ?_)
  have L5 : ∀ (d3 k1 : Nat), k1 ≤ 13 → 13 - k1 < d3 → ∀ y4 : Int64, y4 = zit (bX8_digest_6 M N) k1 58177 → ∀ i2 : Int32, i2 = nI k1 → ∀ ls : Array Slot, lv_has ls 5 [(0, .ref sf), (1, .long y4), (3, .int i2)] → ∀ (H : Heap) (locs : List Loc), zT dC dI ca sf (ad 0) (ad2 0) H → zW dC dI ca ad M H → zW dC dI ca ad2 N H → va_S (zA2 ad ad2) s.heap H locs → W p l e (headSpec wsX8_digest ({ frames := 6, cells := 0, slots := 0, locals := 148 })).room s m ([.ref sf] : List Value).toArray below meth c H locs 0 0 (MQ below (z_Ql (rX8_digest M N ) (fun H => zT dC dI ca sf (ad 0) (ad2 0) H ∧ zW dC dI ca ad M H ∧ zW dC dI ca ad2 (gX8_digest M N ) H) (zA2 ad ad2)) ([.ref sf] : List Value).toArray s 0 0 (zA2 ad ad2)) (F0 m 6 ls []) := by
    intro d3
    induction d3 with
    | zero => intro k1 hk1 hd; exact absurd hd (by omega)
    | succ d3 ihk1 =>
      intro k1 hk1 hd y4 esk1 i2 ei2 ls hl H locs hT hH hG hS
      refine lv_iload_n hx hb dX8_digest_6 rfl (lv_at hl 2 rfl) ?_
      refine lv_bipush (v := 13) hx hb dX8_digest_7 (by decide) ?_
      refine lv_icmp_ge (tgt := 31) hx hb dX8_digest_9 (by decide) (fun c6 => ?_) (fun c6 => ?_)
      · have hkk1 : k1 = 13 := z_ge rfl ei2 hk1 (by decide) c6
        have qy4 : y4 = (zit (bX8_digest_6 M N) (13) 58177) := by rw [← hkk1, ← esk1]
        refine lv_iconst (v := 0) hx hb dX8_digest_31 (by decide) ?_
        refine lv_istore_n (lv' := [(3, .int 0), (0, .ref sf), (1, .long y4)]) hx hb dX8_digest_32 rfl hl (by decide) rfl (fun ls hl => ?_)
        have L16 : ∀ (d14 k12 : Nat), k12 ≤ zc10 M → zc10 M - k12 < d14 → ∀ y15 : Int64, y15 = zit (bX8_digest_33 M N) k12 y4 → ∀ i13 : Int32, i13 = nI k12 → ∀ ls : Array Slot, lv_has ls 5 [(0, .ref sf), (1, .long y15), (3, .int i13)] → ∀ (H : Heap) (locs : List Loc), zT dC dI ca sf (ad 0) (ad2 0) H → zW dC dI ca ad M H → zW dC dI ca ad2 N H → va_S (zA2 ad ad2) s.heap H locs → W p l e (headSpec wsX8_digest ({ frames := 6, cells := 0, slots := 0, locals := 148 })).room s m ([.ref sf] : List Value).toArray below meth c H locs 0 0 (MQ below (z_Ql (rX8_digest M N ) (fun H => zT dC dI ca sf (ad 0) (ad2 0) H ∧ zW dC dI ca ad M H ∧ zW dC dI ca ad2 (gX8_digest M N ) H) (zA2 ad ad2)) ([.ref sf] : List Value).toArray s 0 0 (zA2 ad ad2)) (F0 m 33 ls []) := by
          intro d14
          induction d14 with
          | zero => intro k12 hk12 hd; exact absurd hd (by omega)
          | succ d14 ihk12 =>
            intro k12 hk12 hd y15 esk12 i13 ei13 ls hl H locs hT hH hG hS
            refine lv_iload_n hx hb dX8_digest_33 rfl (lv_at hl 2 rfl) ?_
            refine lv_aload_n hx hb dX8_digest_34 rfl (lv_at hl 0 rfl) ?_
            refine z_gS (k := 0) (v := ad 0) hx hb hts hinX8 hown hK hT (by decide) rfl (hts (.fieldLink RX8 10 "Steamfield" "land" "LSteamfield$Land;") (by decide +kernel)) (fun _ h9 => h9) dX8_digest_35 ?_
            refine z_giN (D := (dC, dI)) (cl := vwCl) (C := RX3) (T := TX3) (N := 15) (ci := 3) (k := 10) hx hb hts hinX3 hown hK hH zk_0 (by decide) rfl (by decide) rfl (hN (.fieldLinkNest RX8 23 "Steamfield$Land" "blockCount" "I" "Steamfield") (by decide +kernel)) (fun _ h9 => h9) dX8_digest_38 ?_
            refine lv_topi (fun x17 ex17 => ?_)
            have hx17 : x17 = nI (zc10 M) := by rw [ex17, hFx.c10]; exact z_Ok.c10 hOk0
            refine lv_icmp_ge (tgt := 81) hx hb dX8_digest_41 (by decide) (fun c18 => ?_) (fun c18 => ?_)
            · have hkk12 : k12 = zc10 M := z_ge hx17 ei13 hk12 (Nat.lt_of_le_of_lt (z_Ok.n10 hOk0) (by decide)) c18
              have qy15 : y15 = (zit (bX8_digest_33 M N) (zc10 M) y4) := by rw [← hkk12, ← esk12]
              refine lv_iconst (v := 0) hx hb dX8_digest_81 (by decide) ?_
              refine lv_istore_n (lv' := [(3, .int 0), (0, .ref sf), (1, .long y15)]) hx hb dX8_digest_82 rfl hl (by decide) rfl (fun ls hl => ?_)
              have L36 : ∀ (d33 k31 : Nat), k31 ≤ zc12 M → zc12 M - k31 < d33 → ∀ N34 : zM, ∀ y35 : Int64, (N34, y35) = zit (bX8_digest_83 M) k31 (N, y15) → ∀ i32 : Int32, i32 = nI k31 → ∀ ls : Array Slot, lv_has ls 5 [(0, .ref sf), (1, .long y35), (3, .int i32)] → ∀ (H : Heap) (locs : List Loc), zT dC dI ca sf (ad 0) (ad2 0) H → zW dC dI ca ad M H → zW dC dI ca ad2 N34 H → va_S (zA2 ad ad2) s.heap H locs → W p l e (headSpec wsX8_digest ({ frames := 6, cells := 0, slots := 0, locals := 148 })).room s m ([.ref sf] : List Value).toArray below meth c H locs 0 0 (MQ below (z_Ql (rX8_digest M N ) (fun H => zT dC dI ca sf (ad 0) (ad2 0) H ∧ zW dC dI ca ad M H ∧ zW dC dI ca ad2 (gX8_digest M N ) H) (zA2 ad ad2)) ([.ref sf] : List Value).toArray s 0 0 (zA2 ad ad2)) (F0 m 83 ls []) := by
                intro d33
                induction d33 with
                | zero => intro k31 hk31 hd; exact absurd hd (by omega)
                | succ d33 ihk31 =>
                  intro k31 hk31 hd N34 y35 esk31 i32 ei32 ls hl H locs hT hH hG hS
                  refine lv_iload_n hx hb dX8_digest_83 rfl (lv_at hl 2 rfl) ?_
                  refine lv_aload_n hx hb dX8_digest_84 rfl (lv_at hl 0 rfl) ?_
                  refine z_gS (k := 0) (v := ad 0) hx hb hts hinX8 hown hK hT (by decide) rfl (hts (.fieldLink RX8 10 "Steamfield" "land" "LSteamfield$Land;") (by decide +kernel)) (fun _ h9 => h9) dX8_digest_85 ?_
                  refine z_giN (D := (dC, dI)) (cl := vwCl) (C := RX3) (T := TX3) (N := 15) (ci := 3) (k := 12) hx hb hts hinX3 hown hK hH zk_0 (by decide) rfl (by decide) rfl (hN (.fieldLinkNest RX8 99 "Steamfield$Land" "wellCount" "I" "Steamfield") (by decide +kernel)) (fun _ h9 => h9) dX8_digest_88 ?_
                  refine lv_topi (fun x37 ex37 => ?_)
                  have hx37 : x37 = nI (zc12 M) := by rw [ex37, hFx.c12]; exact z_Ok.c12 hOk0
                  refine lv_icmp_ge (tgt := 146) hx hb dX8_digest_91 (by decide) (fun c38 => ?_) (fun c38 => ?_)
                  · have hkk31 : k31 = zc12 M := z_ge hx37 ei32 hk31 (Nat.lt_of_le_of_lt (z_Ok.n12 hOk0) (by decide)) c38
                    have qN34 : N34 = (zit (bX8_digest_83 M) (zc12 M) (N, y15)).1 := by rw [← hkk31, ← esk31]
                    have qy35 : y35 = (zit (bX8_digest_83 M) (zc12 M) (N, y15)).2 := by rw [← hkk31, ← esk31]
                    refine lv_iconst (v := 0) hx hb dX8_digest_146 (by decide) ?_
                    refine lv_istore_n (lv' := [(3, .int 0), (0, .ref sf), (1, .long y35)]) hx hb dX8_digest_147 rfl hl (by decide) rfl (fun ls hl => ?_)
                    have L60 : ∀ (d58 k56 : Nat), k56 ≤ zc11 M → zc11 M - k56 < d58 → ∀ y59 : Int64, y59 = zit (bX8_digest_148 M N34) k56 y35 → ∀ i57 : Int32, i57 = nI k56 → ∀ ls : Array Slot, lv_has ls 5 [(0, .ref sf), (1, .long y59), (3, .int i57)] → ∀ (H : Heap) (locs : List Loc), zT dC dI ca sf (ad 0) (ad2 0) H → zW dC dI ca ad M H → zW dC dI ca ad2 N34 H → va_S (zA2 ad ad2) s.heap H locs → W p l e (headSpec wsX8_digest ({ frames := 6, cells := 0, slots := 0, locals := 148 })).room s m ([.ref sf] : List Value).toArray below meth c H locs 0 0 (MQ below (z_Ql (rX8_digest M N ) (fun H => zT dC dI ca sf (ad 0) (ad2 0) H ∧ zW dC dI ca ad M H ∧ zW dC dI ca ad2 (gX8_digest M N ) H) (zA2 ad ad2)) ([.ref sf] : List Value).toArray s 0 0 (zA2 ad ad2)) (F0 m 148 ls []) := by
                      intro d58
                      induction d58 with
                      | zero => intro k56 hk56 hd; exact absurd hd (by omega)
                      | succ d58 ihk56 =>
                        intro k56 hk56 hd y59 esk56 i57 ei57 ls hl H locs hT hH hG hS
                        refine lv_iload_n hx hb dX8_digest_148 rfl (lv_at hl 2 rfl) ?_
                        refine lv_aload_n hx hb dX8_digest_149 rfl (lv_at hl 0 rfl) ?_
                        refine z_gS (k := 0) (v := ad 0) hx hb hts hinX8 hown hK hT (by decide) rfl (hts (.fieldLink RX8 10 "Steamfield" "land" "LSteamfield$Land;") (by decide +kernel)) (fun _ h9 => h9) dX8_digest_150 ?_
                        refine z_giN (D := (dC, dI)) (cl := vwCl) (C := RX3) (T := TX3) (N := 15) (ci := 3) (k := 11) hx hb hts hinX3 hown hK hH zk_0 (by decide) rfl (by decide) rfl (hN (.fieldLinkNest RX8 81 "Steamfield$Land" "faceCount" "I" "Steamfield") (by decide +kernel)) (fun _ h9 => h9) dX8_digest_153 ?_
                        refine lv_topi (fun x61 ex61 => ?_)
                        have hx61 : x61 = nI (zc11 M) := by rw [ex61, hFx.c11]; exact z_Ok.c11 hOk0
                        refine lv_icmp_ge (tgt := 193) hx hb dX8_digest_156 (by decide) (fun c62 => ?_) (fun c62 => ?_)
                        · have hkk56 : k56 = zc11 M := z_ge hx61 ei57 hk56 (Nat.lt_of_le_of_lt (z_Ok.n11 hOk0) (by decide)) c62
                          have qy59 : y59 = (zit (bX8_digest_148 M N34) (zc11 M) y35) := by rw [← hkk56, ← esk56]
                          refine lv_iconst (v := 0) hx hb dX8_digest_193 (by decide) ?_
                          refine lv_istore_n (lv' := [(3, .int 0), (0, .ref sf), (1, .long y59)]) hx hb dX8_digest_194 rfl hl (by decide) rfl (fun ls hl => ?_)
                          have L77 : ∀ (d74 k72 : Nat), k72 ≤ zc13 M → zc13 M - k72 < d74 → ∀ N75 : zM, ∀ y76 : Int64, (N75, y76) = zit (bX8_digest_195 M) k72 (N34, y59) → ∀ i73 : Int32, i73 = nI k72 → ∀ ls : Array Slot, lv_has ls 5 [(0, .ref sf), (1, .long y76), (3, .int i73)] → ∀ (H : Heap) (locs : List Loc), zT dC dI ca sf (ad 0) (ad2 0) H → zW dC dI ca ad M H → zW dC dI ca ad2 N75 H → va_S (zA2 ad ad2) s.heap H locs → W p l e (headSpec wsX8_digest ({ frames := 6, cells := 0, slots := 0, locals := 148 })).room s m ([.ref sf] : List Value).toArray below meth c H locs 0 0 (MQ below (z_Ql (rX8_digest M N ) (fun H => zT dC dI ca sf (ad 0) (ad2 0) H ∧ zW dC dI ca ad M H ∧ zW dC dI ca ad2 (gX8_digest M N ) H) (zA2 ad ad2)) ([.ref sf] : List Value).toArray s 0 0 (zA2 ad ad2)) (F0 m 195 ls []) := by
                            intro d74
                            induction d74 with
                            | zero => intro k72 hk72 hd; exact absurd hd (by omega)
                            | succ d74 ihk72 =>
                              intro k72 hk72 hd N75 y76 esk72 i73 ei73 ls hl H locs hT hH hG hS
                              refine lv_iload_n hx hb dX8_digest_195 rfl (lv_at hl 2 rfl) ?_
                              refine lv_aload_n hx hb dX8_digest_196 rfl (lv_at hl 0 rfl) ?_
                              refine z_gS (k := 0) (v := ad 0) hx hb hts hinX8 hown hK hT (by decide) rfl (hts (.fieldLink RX8 10 "Steamfield" "land" "LSteamfield$Land;") (by decide +kernel)) (fun _ h9 => h9) dX8_digest_197 ?_
                              refine z_giN (D := (dC, dI)) (cl := vwCl) (C := RX3) (T := TX3) (N := 15) (ci := 3) (k := 13) hx hb hts hinX3 hown hK hH zk_0 (by decide) rfl (by decide) rfl (hN (.fieldLinkNest RX8 115 "Steamfield$Land" "springCount" "I" "Steamfield") (by decide +kernel)) (fun _ h9 => h9) dX8_digest_200 ?_
                              refine lv_topi (fun x78 ex78 => ?_)
                              have hx78 : x78 = nI (zc13 M) := by rw [ex78, hFx.c13]; exact z_Ok.c13 hOk0
                              refine lv_icmp_ge (tgt := 279) hx hb dX8_digest_203 (by decide) (fun c79 => ?_) (fun c79 => ?_)
                              · have hkk72 : k72 = zc13 M := z_ge hx78 ei73 hk72 (Nat.lt_of_le_of_lt (z_Ok.n13 hOk0) (by decide)) c79
                                have qN75 : N75 = (zit (bX8_digest_195 M) (zc13 M) (N34, y59)).1 := by rw [← hkk72, ← esk72]
                                have qy76 : y76 = (zit (bX8_digest_195 M) (zc13 M) (N34, y59)).2 := by rw [← hkk72, ← esk72]
                                refine lv_iconst (v := 0) hx hb dX8_digest_279 (by decide) ?_
                                refine lv_istore_n (lv' := [(3, .int 0), (0, .ref sf), (1, .long y76)]) hx hb dX8_digest_280 rfl hl (by decide) rfl (fun ls hl => ?_)
                                have L110 : ∀ (d108 k106 : Nat), k106 ≤ 4 → 4 - k106 < d108 → ∀ y109 : Int64, y109 = zit (bX8_digest_281 M N75) k106 y76 → ∀ i107 : Int32, i107 = nI k106 → ∀ ls : Array Slot, lv_has ls 5 [(0, .ref sf), (1, .long y109), (3, .int i107)] → ∀ (H : Heap) (locs : List Loc), zT dC dI ca sf (ad 0) (ad2 0) H → zW dC dI ca ad M H → zW dC dI ca ad2 N75 H → va_S (zA2 ad ad2) s.heap H locs → W p l e (headSpec wsX8_digest ({ frames := 6, cells := 0, slots := 0, locals := 148 })).room s m ([.ref sf] : List Value).toArray below meth c H locs 0 0 (MQ below (z_Ql (rX8_digest M N ) (fun H => zT dC dI ca sf (ad 0) (ad2 0) H ∧ zW dC dI ca ad M H ∧ zW dC dI ca ad2 (gX8_digest M N ) H) (zA2 ad ad2)) ([.ref sf] : List Value).toArray s 0 0 (zA2 ad ad2)) (F0 m 281 ls []) := by
                                  intro d108
                                  induction d108 with
                                  | zero => intro k106 hk106 hd; exact absurd hd (by omega)
                                  | succ d108 ihk106 =>
                                    intro k106 hk106 hd y109 esk106 i107 ei107 ls hl H locs hT hH hG hS
                                    refine lv_iload_n hx hb dX8_digest_281 rfl (lv_at hl 2 rfl) ?_
                                    refine lv_iconst (v := 4) hx hb dX8_digest_282 (by decide) ?_
                                    refine lv_icmp_ge (tgt := 305) hx hb dX8_digest_283 (by decide) (fun c111 => ?_) (fun c111 => ?_)
                                    · have hkk106 : k106 = 4 := z_ge rfl ei107 hk106 (by decide) c111
                                      have qy109 : y109 = (zit (bX8_digest_281 M N75) (4) y76) := by rw [← hkk106, ← esk106]
                                      refine lv_iconst (v := 0) hx hb dX8_digest_305 (by decide) ?_
                                      refine lv_istore_n (lv' := [(3, .int 0), (0, .ref sf), (1, .long y109)]) hx hb dX8_digest_306 rfl hl (by decide) rfl (fun ls hl => ?_)
                                      have L121 : ∀ (d119 k117 : Nat), k117 ≤ 2 → 2 - k117 < d119 → ∀ y120 : Int64, y120 = zit (bX8_digest_307 M N75) k117 y109 → ∀ i118 : Int32, i118 = nI k117 → ∀ ls : Array Slot, lv_has ls 5 [(0, .ref sf), (1, .long y120), (3, .int i118)] → ∀ (H : Heap) (locs : List Loc), zT dC dI ca sf (ad 0) (ad2 0) H → zW dC dI ca ad M H → zW dC dI ca ad2 N75 H → va_S (zA2 ad ad2) s.heap H locs → W p l e (headSpec wsX8_digest ({ frames := 6, cells := 0, slots := 0, locals := 148 })).room s m ([.ref sf] : List Value).toArray below meth c H locs 0 0 (MQ below (z_Ql (rX8_digest M N ) (fun H => zT dC dI ca sf (ad 0) (ad2 0) H ∧ zW dC dI ca ad M H ∧ zW dC dI ca ad2 (gX8_digest M N ) H) (zA2 ad ad2)) ([.ref sf] : List Value).toArray s 0 0 (zA2 ad ad2)) (F0 m 307 ls []) := by
                                        intro d119
                                        induction d119 with
                                        | zero => intro k117 hk117 hd; exact absurd hd (by omega)
                                        | succ d119 ihk117 =>
                                          intro k117 hk117 hd y120 esk117 i118 ei118 ls hl H locs hT hH hG hS
                                          refine lv_iload_n hx hb dX8_digest_307 rfl (lv_at hl 2 rfl) ?_
                                          refine lv_iconst (v := 2) hx hb dX8_digest_308 (by decide) ?_
                                          refine lv_icmp_ge (tgt := 348) hx hb dX8_digest_309 (by decide) (fun c122 => ?_) (fun c122 => ?_)
                                          · have hkk117 : k117 = 2 := z_ge rfl ei118 hk117 (by decide) c122
                                            have qy120 : y120 = (zit (bX8_digest_307 M N75) (2) y109) := by rw [← hkk117, ← esk117]
                                            refine lv_iconst (v := 0) hx hb dX8_digest_348 (by decide) ?_
                                            refine lv_istore_n (lv' := [(3, .int 0), (0, .ref sf), (1, .long y120)]) hx hb dX8_digest_349 rfl hl (by decide) rfl (fun ls hl => ?_)
                                            have L139 : ∀ (d137 k135 : Nat), k135 ≤ 7 → 7 - k135 < d137 → ∀ y138 : Int64, y138 = zit (bX8_digest_350 M N75) k135 y120 → ∀ i136 : Int32, i136 = nI k135 → ∀ ls : Array Slot, lv_has ls 5 [(0, .ref sf), (1, .long y138), (3, .int i136)] → ∀ (H : Heap) (locs : List Loc), zT dC dI ca sf (ad 0) (ad2 0) H → zW dC dI ca ad M H → zW dC dI ca ad2 N75 H → va_S (zA2 ad ad2) s.heap H locs → W p l e (headSpec wsX8_digest ({ frames := 6, cells := 0, slots := 0, locals := 148 })).room s m ([.ref sf] : List Value).toArray below meth c H locs 0 0 (MQ below (z_Ql (rX8_digest M N ) (fun H => zT dC dI ca sf (ad 0) (ad2 0) H ∧ zW dC dI ca ad M H ∧ zW dC dI ca ad2 (gX8_digest M N ) H) (zA2 ad ad2)) ([.ref sf] : List Value).toArray s 0 0 (zA2 ad ad2)) (F0 m 350 ls []) := by
                                              intro d137
                                              induction d137 with
                                              | zero => intro k135 hk135 hd; exact absurd hd (by omega)
                                              | succ d137 ihk135 =>
                                                intro k135 hk135 hd y138 esk135 i136 ei136 ls hl H locs hT hH hG hS
                                                refine lv_iload_n hx hb dX8_digest_350 rfl (lv_at hl 2 rfl) ?_
                                                refine lv_bipush (v := 7) hx hb dX8_digest_351 (by decide) ?_
                                                refine lv_icmp_ge (tgt := 375) hx hb dX8_digest_353 (by decide) (fun c140 => ?_) (fun c140 => ?_)
                                                · have hkk135 : k135 = 7 := z_ge rfl ei136 hk135 (by decide) c140
                                                  have qy138 : y138 = (zit (bX8_digest_350 M N75) (7) y120) := by rw [← hkk135, ← esk135]
                                                  refine lv_lload_n hx hb dX8_digest_375 rfl (lv_at hl 1 rfl) ?_
                                                  refine lv_ldc2 (v := 31) hx hb hown (hts (.constantLong RX8 259 31) (by decide +kernel)) dX8_digest_376 ?_
                                                  refine lv_lmul hx hb dX8_digest_379 ?_
                                                  refine lv_topl (fun y146 ey146 => ?_)
                                                  refine lv_aload_n hx hb dX8_digest_380 rfl (lv_at hl 0 rfl) ?_
                                                  refine z_cVi (D := (dC, dI)) (cl := vwCl) (tys := zt ca) (nw := zw_nest) (C := RX8) (As := []) (rest := [.long y146]) ⟨hx, hb, hml, hown, hts⟩ (m_X8_isClosed l dC dI ca sf ad hI ad2 hI2 hq M N75 hOk) (cwV 0 hts gX8_digest_X8_isClosed rfl rfl rfl (by decide +kernel) ⟨Nat.le_of_ble_eq_true rfl, Nat.le_of_ble_eq_true rfl⟩) (z_recv (ci := 8) (i := 0) hK hT rfl (by decide) rfl) ⟨hT, hH, hG⟩ hK hN zw_nest_ok rfl hl.1 rfl (Nat.le_of_ble_eq_true rfl) dX8_digest_381 ⟨Nat.le_refl _, Nat.le_refl _⟩ hS (fun _ h => h) (fun H locs hB1 oq1 hz1 hS => ?_)
                                                  obtain ⟨hT, hH, hG⟩ := hB1
                                                  refine lv_topi (fun x147 ex147 => ?_)
                                                  have J150 : ∀ x149 : Int32, x149 = (if x147 = 0 then 0 else 1) → ∀ ls : Array Slot, lv_has ls 5 [(0, .ref sf), (1, .long y138), (3, .int i136)] → W p l e (headSpec wsX8_digest ({ frames := 6, cells := 0, slots := 0, locals := 148 })).room s m ([.ref sf] : List Value).toArray below meth c H locs 0 0 (MQ below (z_Ql (rX8_digest M N ) (fun H => zT dC dI ca sf (ad 0) (ad2 0) H ∧ zW dC dI ca ad M H ∧ zW dC dI ca ad2 (gX8_digest M N ) H) (zA2 ad ad2)) ([.ref sf] : List Value).toArray s 0 0 (zA2 ad ad2)) (F0 m 392 ls [.int x149, .long y146]) := by
                                                    intro x149 ex149 ls hl
                                                    refine lv_i2l hx hb dX8_digest_392 rfl ?_
                                                    refine lv_topl (fun y151 ey151 => ?_)
                                                    refine lv_ladd hx hb dX8_digest_393 ?_
                                                    refine lv_topl (fun y152 ey152 => ?_)
                                                    refine lv_lstore_n (lv' := [(1, .long y152), (0, .ref sf), (3, .int i136)]) hx hb dX8_digest_394 rfl hl (by decide) rfl (fun ls hl => ?_)
                                                    refine lv_lload_n hx hb dX8_digest_395 rfl (lv_at hl 0 rfl) ?_
                                                    refine lv_ldc2 (v := 31) hx hb hown (hts (.constantLong RX8 259 31) (by decide +kernel)) dX8_digest_396 ?_
                                                    refine lv_lmul hx hb dX8_digest_399 ?_
                                                    refine lv_topl (fun y153 ey153 => ?_)
                                                    refine lv_aload_n hx hb dX8_digest_400 rfl (lv_at hl 1 rfl) ?_
                                                    refine lv_iconst (v := 4) hx hb dX8_digest_401 (by decide) ?_
                                                    refine z_cVi (D := (dC, dI)) (cl := vwCl) (tys := zt ca) (nw := zw_nest) (C := RX8) (As := [.int 4]) (rest := [.long y153]) ⟨hx, hb, hml, hown, hts⟩ (m_X8_wouldGive l dC dI ca sf ad hI ad2 hI2 hq M N75 4 hOk ⟨by decide, by decide⟩ h_run) (cwV 1 hts gX8_digest_X8_wouldGive rfl rfl rfl (by decide +kernel) ⟨Nat.le_of_ble_eq_true rfl, Nat.le_of_ble_eq_true rfl⟩) (z_recv (ci := 8) (i := 0) hK hT rfl (by decide) rfl) ⟨hT, hH, hG⟩ hK hN zw_nest_ok rfl hl.1 rfl (Nat.le_of_ble_eq_true rfl) dX8_digest_402 ⟨Nat.le_refl _, Nat.le_refl _⟩ hS (fun _ h => h) (fun H locs hB1 oq1 hz1 hS => ?_)
                                                    obtain ⟨hT, hH, hG⟩ := hB1
                                                    refine lv_topi (fun x154 ex154 => ?_)
                                                    obtain ⟨M155, hM155⟩ : ∃ z : zM, z = gX8_wouldGive M N75 4 := ⟨_, rfl⟩
                                                    have hG : z_H (dC, dI) vwCl zf ca zd ad2 M155 H := by rw [hM155]; exact hG
                                                    refine lv_i2l hx hb dX8_digest_405 rfl ?_
                                                    refine lv_topl (fun y156 ey156 => ?_)
                                                    refine lv_ladd hx hb dX8_digest_406 ?_
                                                    refine lv_topl (fun y157 ey157 => ?_)
                                                    refine lv_lstore_n (lv' := [(1, .long y157), (0, .ref sf), (3, .int i136)]) hx hb dX8_digest_407 rfl hl (by decide) rfl (fun ls hl => ?_)
                                                    refine lv_lload_n hx hb dX8_digest_408 rfl (lv_at hl 0 rfl) ?_
                                                    refine lv_ldc2 (v := 31) hx hb hown (hts (.constantLong RX8 259 31) (by decide +kernel)) dX8_digest_409 ?_
                                                    refine lv_lmul hx hb dX8_digest_412 ?_
                                                    refine lv_topl (fun y158 ey158 => ?_)
                                                    refine lv_aload_n hx hb dX8_digest_413 rfl (lv_at hl 1 rfl) ?_
                                                    refine lv_iconst (v := 3) hx hb dX8_digest_414 (by decide) ?_
                                                    refine z_cVi (D := (dC, dI)) (cl := vwCl) (tys := zt ca) (nw := zw_nest) (C := RX8) (As := [.int 3]) (rest := [.long y158]) ⟨hx, hb, hml, hown, hts⟩ (m_X8_bestValves l dC dI ca sf ad hI ad2 hI2 hq M M155 3 hOk ⟨by decide, by decide⟩ h_run) (cwV 1 hts gX8_digest_X8_bestValves rfl rfl rfl (by decide +kernel) ⟨Nat.le_of_ble_eq_true rfl, Nat.le_of_ble_eq_true rfl⟩) (z_recv (ci := 8) (i := 0) hK hT rfl (by decide) rfl) ⟨hT, hH, hG⟩ hK hN zw_nest_ok rfl hl.1 rfl (Nat.le_of_ble_eq_true rfl) dX8_digest_415 ⟨Nat.le_refl _, Nat.le_refl _⟩ hS (fun _ h => h) (fun H locs hB1 oq1 hz1 hS => ?_)
                                                    obtain ⟨hT, hH, hG⟩ := hB1
                                                    refine lv_topi (fun x159 ex159 => ?_)
                                                    obtain ⟨M160, hM160⟩ : ∃ z : zM, z = gX8_bestValves M M155 3 := ⟨_, rfl⟩
                                                    have hG : z_H (dC, dI) vwCl zf ca zd ad2 M160 H := by rw [hM160]; exact hG
                                                    refine lv_i2l hx hb dX8_digest_418 rfl ?_
                                                    refine lv_topl (fun y161 ey161 => ?_)
                                                    refine lv_ladd hx hb dX8_digest_419 ?_
                                                    refine lv_topl (fun y162 ey162 => ?_)
                                                    have hF1 : zW dC dI ca ad2 (gX8_digest M N ) H := by
                                                      have e9 : M160 = (gX8_digest M N ) := by subst ey162; subst ey161; subst hM160; subst ex159; subst ey158; subst ey157; subst ey156; subst hM155; subst ex154; subst ey153; subst ey152; subst ey151; subst ex149; subst ex147; subst ey146; subst qy138; subst qy120; subst qy109; subst qy76; subst qN75; subst qy59; subst qy35; subst qN34; subst qy15; subst qy4; rfl
                                                      rw [← e9]; exact hG
                                                    have hR : y162 = rX8_digest M N  := by subst ey162; subst ey161; subst hM160; subst ex159; subst ey158; subst ey157; subst ey156; subst hM155; subst ex154; subst ey153; subst ey152; subst ey151; subst ex149; subst ex147; subst ey146; subst qy138; subst qy120; subst qy109; subst qy76; subst qN75; subst qy59; subst qy35; subst qN34; subst qy15; subst qy4; rfl
                                                    exact W.lret (v := y162) hx hb hr (fun t ht hW => ⟨⟨y162, (), rfl, hR, z_to (B := fun H => zT dC dI ca sf (ad 0) (ad2 0) H ∧ zW dC dI ca ad M H ∧ zW dC dI ca ad2 (gX8_digest M N ) H) ht ⟨hT, hH, hF1⟩⟩, hS.F ht⟩) hS.2.2 dX8_digest_420
                                                  refine lv_if_eq (tgt := 391) hx hb dX8_digest_384 (by decide) (fun c148 => ?_) (fun c148 => ?_)
                                                  · refine lv_iconst (v := 0) hx hb dX8_digest_391 (by decide) ?_
                                                    exact J150 _ (by exact (if_pos c148).symm) ls (lv_sub hl [0, 1, 2] rfl)
                                                  · refine lv_iconst (v := 1) hx hb dX8_digest_387 (by decide) ?_
                                                    refine lv_goto (tgt := 392) hx hb dX8_digest_388 (by decide) ?_
                                                    exact J150 _ (by exact (if_neg c148).symm) ls (lv_sub hl [0, 1, 2] rfl)
                                                · have hkk135 : k135 < 7 := z_lt rfl ei136 hk135 (by decide) c140
                                                  refine lv_lload_n hx hb dX8_digest_356 rfl (lv_at hl 1 rfl) ?_
                                                  refine lv_ldc2 (v := 31) hx hb hown (hts (.constantLong RX8 259 31) (by decide +kernel)) dX8_digest_357 ?_
                                                  refine lv_lmul hx hb dX8_digest_360 ?_
                                                  refine lv_topl (fun y141 ey141 => ?_)
                                                  refine lv_aload_n hx hb dX8_digest_361 rfl (lv_at hl 0 rfl) ?_
                                                  refine lv_iload_n hx hb dX8_digest_362 rfl (lv_at hl 2 rfl) ?_
                                                  refine z_cVi (D := (dC, dI)) (cl := vwCl) (tys := zt ca) (nw := zw_nest) (C := RX8) (As := [.int i136]) (rest := [.long y141]) ⟨hx, hb, hml, hown, hts⟩ (m_X8_mass l dC dI ca sf ad hI ad2 hI2 hq M N75 i136 hOk (z_rg_k ei136 hkk135 (by decide) rfl)) (cwV 1 hts gX8_digest_X8_mass rfl rfl rfl (by decide +kernel) ⟨Nat.le_of_ble_eq_true rfl, Nat.le_of_ble_eq_true rfl⟩) (z_recv (ci := 8) (i := 0) hK hT rfl (by decide) rfl) ⟨hT, hH, hG⟩ hK hN zw_nest_ok rfl hl.1 rfl (Nat.le_of_ble_eq_true rfl) dX8_digest_363 ⟨Nat.le_refl _, Nat.le_refl _⟩ hS (fun _ h => h) (fun H locs hB1 oq1 hz1 hS => ?_)
                                                  obtain ⟨hT, hH, hG⟩ := hB1
                                                  refine lv_topi (fun x142 ex142 => ?_)
                                                  refine lv_i2l hx hb dX8_digest_366 rfl ?_
                                                  refine lv_topl (fun y143 ey143 => ?_)
                                                  refine lv_ladd hx hb dX8_digest_367 ?_
                                                  refine lv_topl (fun y144 ey144 => ?_)
                                                  refine lv_lstore_n (lv' := [(1, .long y144), (0, .ref sf), (3, .int i136)]) hx hb dX8_digest_368 rfl hl (by decide) rfl (fun ls hl => ?_)
                                                  obtain ⟨x145, ex145⟩ : ∃ z : Int32, z = i136 + 1 := ⟨_, rfl⟩
                                                  refine lv_iinc (v := x145) (lv' := [(3, .int x145), (1, .long y144), (0, .ref sf)]) hx hb dX8_digest_369 hl (k := 2) rfl (by rw [ex145]; rfl) (by decide) rfl (fun ls hl => ?_)
                                                  refine lv_goto (tgt := 350) hx hb dX8_digest_372 (by decide) ?_
                                                  exact ihk135 (k135 + 1) hkk135 (by omega) y144 (by rw [zit_s, ← esk135]; subst ex145; subst ey144; subst ey143; subst ex142; subst ey141; subst ei136; rfl) x145 (z_nx ei136 ex145) ls (lv_sub hl [2, 1, 0] rfl) _ _ hT hH hG hS
                                            exact L139 (7 + 1) 0 (Nat.zero_le _) (by omega) y120 (zit_0 _ _).symm _ rfl ls (lv_sub hl [1, 2, 0] rfl) H locs hT hH hG hS
                                          · have hkk117 : k117 < 2 := z_lt rfl ei118 hk117 (by decide) c122
                                            refine lv_iconst (v := 0) hx hb dX8_digest_312 (by decide) ?_
                                            refine lv_istore (lv' := [(4, .int 0), (0, .ref sf), (1, .long y120), (3, .int i118)]) hx hb dX8_digest_313 hl (by decide) rfl (fun ls hl => ?_)
                                            have L127 : ∀ (d125 k123 : Nat), k123 ≤ 2 → 2 - k123 < d125 → ∀ y126 : Int64, y126 = zit (bX8_digest_315 M N75 i118) k123 y120 → ∀ i124 : Int32, i124 = nI k123 → ∀ ls : Array Slot, lv_has ls 5 [(0, .ref sf), (1, .long y126), (3, .int i118), (4, .int i124)] → ∀ (H : Heap) (locs : List Loc), zT dC dI ca sf (ad 0) (ad2 0) H → zW dC dI ca ad M H → zW dC dI ca ad2 N75 H → va_S (zA2 ad ad2) s.heap H locs → W p l e (headSpec wsX8_digest ({ frames := 6, cells := 0, slots := 0, locals := 148 })).room s m ([.ref sf] : List Value).toArray below meth c H locs 0 0 (MQ below (z_Ql (rX8_digest M N ) (fun H => zT dC dI ca sf (ad 0) (ad2 0) H ∧ zW dC dI ca ad M H ∧ zW dC dI ca ad2 (gX8_digest M N ) H) (zA2 ad ad2)) ([.ref sf] : List Value).toArray s 0 0 (zA2 ad ad2)) (F0 m 315 ls []) := by
                                              intro d125
                                              induction d125 with
                                              | zero => intro k123 hk123 hd; exact absurd hd (by omega)
                                              | succ d125 ihk123 =>
                                                intro k123 hk123 hd y126 esk123 i124 ei124 ls hl H locs hT hH hG hS
                                                refine lv_iload hx hb dX8_digest_315 (lv_at hl 3 rfl) ?_
                                                refine lv_iconst (v := 2) hx hb dX8_digest_317 (by decide) ?_
                                                refine lv_icmp_ge (tgt := 342) hx hb dX8_digest_318 (by decide) (fun c128 => ?_) (fun c128 => ?_)
                                                · have hkk123 : k123 = 2 := z_ge rfl ei124 hk123 (by decide) c128
                                                  have qy126 : y126 = (zit (bX8_digest_315 M N75 i118) (2) y120) := by rw [← hkk123, ← esk123]
                                                  obtain ⟨x134, ex134⟩ : ∃ z : Int32, z = i118 + 1 := ⟨_, rfl⟩
                                                  refine lv_iinc (v := x134) (lv' := [(3, .int x134), (0, .ref sf), (1, .long y126), (4, .int i124)]) hx hb dX8_digest_342 hl (k := 2) rfl (by rw [ex134]; rfl) (by decide) rfl (fun ls hl => ?_)
                                                  refine lv_goto (tgt := 307) hx hb dX8_digest_345 (by decide) ?_
                                                  exact ihk117 (k117 + 1) hkk117 (by omega) y126 (by rw [zit_s, ← esk117]; subst ex134; subst qy126; subst ei118; rfl) x134 (z_nx ei118 ex134) ls (lv_sub hl [1, 2, 0] rfl) _ _ hT hH hG hS
                                                · have hkk123 : k123 < 2 := z_lt rfl ei124 hk123 (by decide) c128
                                                  refine lv_lload_n hx hb dX8_digest_321 rfl (lv_at hl 1 rfl) ?_
                                                  refine lv_ldc2 (v := 31) hx hb hown (hts (.constantLong RX8 259 31) (by decide +kernel)) dX8_digest_322 ?_
                                                  refine lv_lmul hx hb dX8_digest_325 ?_
                                                  refine lv_topl (fun y129 ey129 => ?_)
                                                  refine lv_aload_n hx hb dX8_digest_326 rfl (lv_at hl 0 rfl) ?_
                                                  refine lv_iload_n hx hb dX8_digest_327 rfl (lv_at hl 2 rfl) ?_
                                                  refine lv_iload hx hb dX8_digest_328 (lv_at hl 3 rfl) ?_
                                                  refine z_cVi (D := (dC, dI)) (cl := vwCl) (tys := zt ca) (nw := zw_nest) (C := RX8) (As := [.int i118, .int i124]) (rest := [.long y129]) ⟨hx, hb, hml, hown, hts⟩ (m_X8_ofOwner l dC dI ca sf ad hI ad2 hI2 hq M N75 i118 i124 hOk ⟨k117, hkk117, Nat.lt_trans hkk117 (by decide), ei118⟩ (z_rg_k ei124 hkk123 (by decide) rfl)) (cwV 2 hts gX8_digest_X8_ofOwner rfl rfl rfl (by decide +kernel) ⟨Nat.le_of_ble_eq_true rfl, Nat.le_of_ble_eq_true rfl⟩) (z_recv (ci := 8) (i := 0) hK hT rfl (by decide) rfl) ⟨hT, hH, hG⟩ hK hN zw_nest_ok rfl hl.1 rfl (Nat.le_of_ble_eq_true rfl) dX8_digest_330 ⟨Nat.le_refl _, Nat.le_refl _⟩ hS (fun _ h => h) (fun H locs hB1 oq1 hz1 hS => ?_)
                                                  obtain ⟨hT, hH, hG⟩ := hB1
                                                  refine lv_topi (fun x130 ex130 => ?_)
                                                  refine lv_i2l hx hb dX8_digest_333 rfl ?_
                                                  refine lv_topl (fun y131 ey131 => ?_)
                                                  refine lv_ladd hx hb dX8_digest_334 ?_
                                                  refine lv_topl (fun y132 ey132 => ?_)
                                                  refine lv_lstore_n (lv' := [(1, .long y132), (0, .ref sf), (3, .int i118), (4, .int i124)]) hx hb dX8_digest_335 rfl hl (by decide) rfl (fun ls hl => ?_)
                                                  obtain ⟨x133, ex133⟩ : ∃ z : Int32, z = i124 + 1 := ⟨_, rfl⟩
                                                  refine lv_iinc (v := x133) (lv' := [(4, .int x133), (1, .long y132), (0, .ref sf), (3, .int i118)]) hx hb dX8_digest_336 hl (k := 3) rfl (by rw [ex133]; rfl) (by decide) rfl (fun ls hl => ?_)
                                                  refine lv_goto (tgt := 315) hx hb dX8_digest_339 (by decide) ?_
                                                  exact ihk123 (k123 + 1) hkk123 (by omega) y132 (by rw [zit_s, ← esk123]; subst ex133; subst ey132; subst ey131; subst ex130; subst ey129; subst ei124; rfl) x133 (z_nx ei124 ex133) ls (lv_sub hl [2, 1, 3, 0] rfl) _ _ hT hH hG hS
                                            exact L127 (2 + 1) 0 (Nat.zero_le _) (by omega) y120 (zit_0 _ _).symm _ rfl ls (lv_sub hl [1, 2, 3, 0] rfl) H locs hT hH hG hS
                                      exact L121 (2 + 1) 0 (Nat.zero_le _) (by omega) y109 (zit_0 _ _).symm _ rfl ls (lv_sub hl [1, 2, 0] rfl) H locs hT hH hG hS
                                    · have hkk106 : k106 < 4 := z_lt rfl ei107 hk106 (by decide) c111
                                      refine lv_lload_n hx hb dX8_digest_286 rfl (lv_at hl 1 rfl) ?_
                                      refine lv_ldc2 (v := 31) hx hb hown (hts (.constantLong RX8 259 31) (by decide +kernel)) dX8_digest_287 ?_
                                      refine lv_lmul hx hb dX8_digest_290 ?_
                                      refine lv_topl (fun y112 ey112 => ?_)
                                      refine lv_aload_n hx hb dX8_digest_291 rfl (lv_at hl 0 rfl) ?_
                                      refine lv_iload_n hx hb dX8_digest_292 rfl (lv_at hl 2 rfl) ?_
                                      refine z_cVi (D := (dC, dI)) (cl := vwCl) (tys := zt ca) (nw := zw_nest) (C := RX8) (As := [.int i107]) (rest := [.long y112]) ⟨hx, hb, hml, hown, hts⟩ (m_X8_pond l dC dI ca sf ad hI ad2 hI2 hq M N75 i107 hOk (z_rg_k ei107 hkk106 (by decide) rfl)) (cwV 1 hts gX8_digest_X8_pond rfl rfl rfl (by decide +kernel) ⟨Nat.le_of_ble_eq_true rfl, Nat.le_of_ble_eq_true rfl⟩) (z_recv (ci := 8) (i := 0) hK hT rfl (by decide) rfl) ⟨hT, hH, hG⟩ hK hN zw_nest_ok rfl hl.1 rfl (Nat.le_of_ble_eq_true rfl) dX8_digest_293 ⟨Nat.le_refl _, Nat.le_refl _⟩ hS (fun _ h => h) (fun H locs hB1 oq1 hz1 hS => ?_)
                                      obtain ⟨hT, hH, hG⟩ := hB1
                                      refine lv_topi (fun x113 ex113 => ?_)
                                      refine lv_i2l hx hb dX8_digest_296 rfl ?_
                                      refine lv_topl (fun y114 ey114 => ?_)
                                      refine lv_ladd hx hb dX8_digest_297 ?_
                                      refine lv_topl (fun y115 ey115 => ?_)
                                      refine lv_lstore_n (lv' := [(1, .long y115), (0, .ref sf), (3, .int i107)]) hx hb dX8_digest_298 rfl hl (by decide) rfl (fun ls hl => ?_)
                                      obtain ⟨x116, ex116⟩ : ∃ z : Int32, z = i107 + 1 := ⟨_, rfl⟩
                                      refine lv_iinc (v := x116) (lv' := [(3, .int x116), (1, .long y115), (0, .ref sf)]) hx hb dX8_digest_299 hl (k := 2) rfl (by rw [ex116]; rfl) (by decide) rfl (fun ls hl => ?_)
                                      refine lv_goto (tgt := 281) hx hb dX8_digest_302 (by decide) ?_
                                      exact ihk106 (k106 + 1) hkk106 (by omega) y115 (by rw [zit_s, ← esk106]; subst ex116; subst ey115; subst ey114; subst ex113; subst ey112; subst ei107; rfl) x116 (z_nx ei107 ex116) ls (lv_sub hl [2, 1, 0] rfl) _ _ hT hH hG hS
                                exact L110 (4 + 1) 0 (Nat.zero_le _) (by omega) y76 (zit_0 _ _).symm _ rfl ls (lv_sub hl [1, 2, 0] rfl) H locs hT hH hG hS
                              · have hkk72 : k72 < zc13 M := z_lt hx78 ei73 hk72 (Nat.lt_of_le_of_lt (z_Ok.n13 hOk0) (by decide)) c79
                                refine lv_iconst (v := 0) hx hb dX8_digest_206 (by decide) ?_
                                refine lv_istore (lv' := [(4, .int 0), (0, .ref sf), (1, .long y76), (3, .int i73)]) hx hb dX8_digest_207 hl (by decide) rfl (fun ls hl => ?_)
                                have L84 : ∀ (d82 k80 : Nat), k80 ≤ 4 → 4 - k80 < d82 → ∀ y83 : Int64, y83 = zit (bX8_digest_209 M i73 N75) k80 y76 → ∀ i81 : Int32, i81 = nI k80 → ∀ ls : Array Slot, lv_has ls 5 [(0, .ref sf), (1, .long y83), (3, .int i73), (4, .int i81)] → ∀ (H : Heap) (locs : List Loc), zT dC dI ca sf (ad 0) (ad2 0) H → zW dC dI ca ad M H → zW dC dI ca ad2 N75 H → va_S (zA2 ad ad2) s.heap H locs → W p l e (headSpec wsX8_digest ({ frames := 6, cells := 0, slots := 0, locals := 148 })).room s m ([.ref sf] : List Value).toArray below meth c H locs 0 0 (MQ below (z_Ql (rX8_digest M N ) (fun H => zT dC dI ca sf (ad 0) (ad2 0) H ∧ zW dC dI ca ad M H ∧ zW dC dI ca ad2 (gX8_digest M N ) H) (zA2 ad ad2)) ([.ref sf] : List Value).toArray s 0 0 (zA2 ad ad2)) (F0 m 209 ls []) := by
                                  intro d82
                                  induction d82 with
                                  | zero => intro k80 hk80 hd; exact absurd hd (by omega)
                                  | succ d82 ihk80 =>
                                    intro k80 hk80 hd y83 esk80 i81 ei81 ls hl H locs hT hH hG hS
                                    refine lv_iload hx hb dX8_digest_209 (lv_at hl 3 rfl) ?_
                                    refine lv_iconst (v := 4) hx hb dX8_digest_211 (by decide) ?_
                                    refine lv_icmp_ge (tgt := 236) hx hb dX8_digest_212 (by decide) (fun c85 => ?_) (fun c85 => ?_)
                                    · have hkk80 : k80 = 4 := z_ge rfl ei81 hk80 (by decide) c85
                                      have qy83 : y83 = (zit (bX8_digest_209 M i73 N75) (4) y76) := by rw [← hkk80, ← esk80]
                                      refine lv_iconst (v := 0) hx hb dX8_digest_236 (by decide) ?_
                                      refine lv_istore (lv' := [(4, .int 0), (0, .ref sf), (1, .long y83), (3, .int i73)]) hx hb dX8_digest_237 hl (by decide) rfl (fun ls hl => ?_)
                                      have L96 : ∀ (d93 k91 : Nat), k91 ≤ zc12 M → zc12 M - k91 < d93 → ∀ N94 : zM, ∀ y95 : Int64, (N94, y95) = zit (bX8_digest_239 M i73) k91 (N75, y83) → ∀ i92 : Int32, i92 = nI k91 → ∀ ls : Array Slot, lv_has ls 5 [(0, .ref sf), (1, .long y95), (3, .int i73), (4, .int i92)] → ∀ (H : Heap) (locs : List Loc), zT dC dI ca sf (ad 0) (ad2 0) H → zW dC dI ca ad M H → zW dC dI ca ad2 N94 H → va_S (zA2 ad ad2) s.heap H locs → W p l e (headSpec wsX8_digest ({ frames := 6, cells := 0, slots := 0, locals := 148 })).room s m ([.ref sf] : List Value).toArray below meth c H locs 0 0 (MQ below (z_Ql (rX8_digest M N ) (fun H => zT dC dI ca sf (ad 0) (ad2 0) H ∧ zW dC dI ca ad M H ∧ zW dC dI ca ad2 (gX8_digest M N ) H) (zA2 ad ad2)) ([.ref sf] : List Value).toArray s 0 0 (zA2 ad ad2)) (F0 m 239 ls []) := by
                                        intro d93
                                        induction d93 with
                                        | zero => intro k91 hk91 hd; exact absurd hd (by omega)
                                        | succ d93 ihk91 =>
                                          intro k91 hk91 hd N94 y95 esk91 i92 ei92 ls hl H locs hT hH hG hS
                                          refine lv_iload hx hb dX8_digest_239 (lv_at hl 3 rfl) ?_
                                          refine lv_aload_n hx hb dX8_digest_241 rfl (lv_at hl 0 rfl) ?_
                                          refine z_gS (k := 0) (v := ad 0) hx hb hts hinX8 hown hK hT (by decide) rfl (hts (.fieldLink RX8 10 "Steamfield" "land" "LSteamfield$Land;") (by decide +kernel)) (fun _ h9 => h9) dX8_digest_242 ?_
                                          refine z_giN (D := (dC, dI)) (cl := vwCl) (C := RX3) (T := TX3) (N := 15) (ci := 3) (k := 12) hx hb hts hinX3 hown hK hH zk_0 (by decide) rfl (by decide) rfl (hN (.fieldLinkNest RX8 99 "Steamfield$Land" "wellCount" "I" "Steamfield") (by decide +kernel)) (fun _ h9 => h9) dX8_digest_245 ?_
                                          refine lv_topi (fun x97 ex97 => ?_)
                                          have hx97 : x97 = nI (zc12 M) := by rw [ex97, hFx.c12]; exact z_Ok.c12 hOk0
                                          refine lv_icmp_ge (tgt := 273) hx hb dX8_digest_248 (by decide) (fun c98 => ?_) (fun c98 => ?_)
                                          · have hkk91 : k91 = zc12 M := z_ge hx97 ei92 hk91 (Nat.lt_of_le_of_lt (z_Ok.n12 hOk0) (by decide)) c98
                                            have qN94 : N94 = (zit (bX8_digest_239 M i73) (zc12 M) (N75, y83)).1 := by rw [← hkk91, ← esk91]
                                            have qy95 : y95 = (zit (bX8_digest_239 M i73) (zc12 M) (N75, y83)).2 := by rw [← hkk91, ← esk91]
                                            obtain ⟨x105, ex105⟩ : ∃ z : Int32, z = i73 + 1 := ⟨_, rfl⟩
                                            refine lv_iinc (v := x105) (lv' := [(3, .int x105), (0, .ref sf), (1, .long y95), (4, .int i92)]) hx hb dX8_digest_273 hl (k := 2) rfl (by rw [ex105]; rfl) (by decide) rfl (fun ls hl => ?_)
                                            refine lv_goto (tgt := 195) hx hb dX8_digest_276 (by decide) ?_
                                            exact ihk72 (k72 + 1) hkk72 (by omega) N94 y95 (by rw [zit_s, ← esk72]; subst ex105; subst qy95; subst qN94; subst qy83; subst ex78; subst ei73; rfl) x105 (z_nx ei73 ex105) ls (lv_sub hl [1, 2, 0] rfl) _ _ hT hH hG hS
                                          · have hkk91 : k91 < zc12 M := z_lt hx97 ei92 hk91 (Nat.lt_of_le_of_lt (z_Ok.n12 hOk0) (by decide)) c98
                                            refine lv_lload_n hx hb dX8_digest_251 rfl (lv_at hl 1 rfl) ?_
                                            refine lv_ldc2 (v := 31) hx hb hown (hts (.constantLong RX8 259 31) (by decide +kernel)) dX8_digest_252 ?_
                                            refine lv_lmul hx hb dX8_digest_255 ?_
                                            refine lv_topl (fun y99 ey99 => ?_)
                                            refine lv_aload_n hx hb dX8_digest_256 rfl (lv_at hl 0 rfl) ?_
                                            refine lv_iload_n hx hb dX8_digest_257 rfl (lv_at hl 2 rfl) ?_
                                            refine lv_iload hx hb dX8_digest_258 (lv_at hl 3 rfl) ?_
                                            refine lv_iconst (v := 3) hx hb dX8_digest_260 (by decide) ?_
                                            refine z_cVi (D := (dC, dI)) (cl := vwCl) (tys := zt ca) (nw := zw_nest) (C := RX8) (As := [.int i73, .int i92, .int 3]) (rest := [.long y99]) ⟨hx, hb, hml, hown, hts⟩ (m_X8_causedBy l dC dI ca sf ad hI ad2 hI2 hq M N94 i73 i92 3 hOk ⟨k72, hkk72, Nat.lt_trans (Nat.lt_of_lt_of_le hkk72 (z_Ok.n13 hOk0)) (by decide), ei73⟩ ⟨k91, hkk91, Nat.lt_trans (Nat.lt_of_lt_of_le hkk91 (z_Ok.n12 hOk0)) (by decide), ei92⟩ ⟨by decide, by decide⟩ h_run) (cwV 3 hts gX8_digest_X8_causedBy rfl rfl rfl (by decide +kernel) ⟨Nat.le_of_ble_eq_true rfl, Nat.le_of_ble_eq_true rfl⟩) (z_recv (ci := 8) (i := 0) hK hT rfl (by decide) rfl) ⟨hT, hH, hG⟩ hK hN zw_nest_ok rfl hl.1 rfl (Nat.le_of_ble_eq_true rfl) dX8_digest_261 ⟨Nat.le_refl _, Nat.le_refl _⟩ hS (fun _ h => h) (fun H locs hB1 oq1 hz1 hS => ?_)
                                            obtain ⟨hT, hH, hG⟩ := hB1
                                            refine lv_topi (fun x100 ex100 => ?_)
                                            obtain ⟨M101, hM101⟩ : ∃ z : zM, z = gX8_causedBy M N94 i73 i92 3 := ⟨_, rfl⟩
                                            have hG : z_H (dC, dI) vwCl zf ca zd ad2 M101 H := by rw [hM101]; exact hG
                                            refine lv_i2l hx hb dX8_digest_264 rfl ?_
                                            refine lv_topl (fun y102 ey102 => ?_)
                                            refine lv_ladd hx hb dX8_digest_265 ?_
                                            refine lv_topl (fun y103 ey103 => ?_)
                                            refine lv_lstore_n (lv' := [(1, .long y103), (0, .ref sf), (3, .int i73), (4, .int i92)]) hx hb dX8_digest_266 rfl hl (by decide) rfl (fun ls hl => ?_)
                                            obtain ⟨x104, ex104⟩ : ∃ z : Int32, z = i92 + 1 := ⟨_, rfl⟩
                                            refine lv_iinc (v := x104) (lv' := [(4, .int x104), (1, .long y103), (0, .ref sf), (3, .int i73)]) hx hb dX8_digest_267 hl (k := 3) rfl (by rw [ex104]; rfl) (by decide) rfl (fun ls hl => ?_)
                                            refine lv_goto (tgt := 239) hx hb dX8_digest_270 (by decide) ?_
                                            exact ihk91 (k91 + 1) hkk91 (by omega) M101 y103 (by rw [zit_s, ← esk91]; subst ex104; subst ey103; subst ey102; subst hM101; subst ex100; subst ey99; subst ex97; subst ei92; rfl) x104 (z_nx ei92 ex104) ls (lv_sub hl [2, 1, 3, 0] rfl) _ _ hT hH hG hS
                                      exact L96 (zc12 M + 1) 0 (Nat.zero_le _) (by omega) N75 y83 (zit_0 _ _).symm _ rfl ls (lv_sub hl [1, 2, 3, 0] rfl) H locs hT hH hG hS
                                    · have hkk80 : k80 < 4 := z_lt rfl ei81 hk80 (by decide) c85
                                      refine lv_lload_n hx hb dX8_digest_215 rfl (lv_at hl 1 rfl) ?_
                                      refine lv_ldc2 (v := 31) hx hb hown (hts (.constantLong RX8 259 31) (by decide +kernel)) dX8_digest_216 ?_
                                      refine lv_lmul hx hb dX8_digest_219 ?_
                                      refine lv_topl (fun y86 ey86 => ?_)
                                      refine lv_aload_n hx hb dX8_digest_220 rfl (lv_at hl 0 rfl) ?_
                                      refine lv_iload_n hx hb dX8_digest_221 rfl (lv_at hl 2 rfl) ?_
                                      refine lv_iload hx hb dX8_digest_222 (lv_at hl 3 rfl) ?_
                                      refine z_cVi (D := (dC, dI)) (cl := vwCl) (tys := zt ca) (nw := zw_nest) (C := RX8) (As := [.int i73, .int i81]) (rest := [.long y86]) ⟨hx, hb, hml, hown, hts⟩ (m_X8_ofSpring l dC dI ca sf ad hI ad2 hI2 hq M N75 i73 i81 hOk ⟨k72, hkk72, Nat.lt_trans (Nat.lt_of_lt_of_le hkk72 (z_Ok.n13 hOk0)) (by decide), ei73⟩ (z_rg_k ei81 hkk80 (by decide) rfl)) (cwV 2 hts gX8_digest_X8_ofSpring rfl rfl rfl (by decide +kernel) ⟨Nat.le_of_ble_eq_true rfl, Nat.le_of_ble_eq_true rfl⟩) (z_recv (ci := 8) (i := 0) hK hT rfl (by decide) rfl) ⟨hT, hH, hG⟩ hK hN zw_nest_ok rfl hl.1 rfl (Nat.le_of_ble_eq_true rfl) dX8_digest_224 ⟨Nat.le_refl _, Nat.le_refl _⟩ hS (fun _ h => h) (fun H locs hB1 oq1 hz1 hS => ?_)
                                      obtain ⟨hT, hH, hG⟩ := hB1
                                      refine lv_topi (fun x87 ex87 => ?_)
                                      refine lv_i2l hx hb dX8_digest_227 rfl ?_
                                      refine lv_topl (fun y88 ey88 => ?_)
                                      refine lv_ladd hx hb dX8_digest_228 ?_
                                      refine lv_topl (fun y89 ey89 => ?_)
                                      refine lv_lstore_n (lv' := [(1, .long y89), (0, .ref sf), (3, .int i73), (4, .int i81)]) hx hb dX8_digest_229 rfl hl (by decide) rfl (fun ls hl => ?_)
                                      obtain ⟨x90, ex90⟩ : ∃ z : Int32, z = i81 + 1 := ⟨_, rfl⟩
                                      refine lv_iinc (v := x90) (lv' := [(4, .int x90), (1, .long y89), (0, .ref sf), (3, .int i73)]) hx hb dX8_digest_230 hl (k := 3) rfl (by rw [ex90]; rfl) (by decide) rfl (fun ls hl => ?_)
                                      refine lv_goto (tgt := 209) hx hb dX8_digest_233 (by decide) ?_
                                      exact ihk80 (k80 + 1) hkk80 (by omega) y89 (by rw [zit_s, ← esk80]; subst ex90; subst ey89; subst ey88; subst ex87; subst ey86; subst ei81; rfl) x90 (z_nx ei81 ex90) ls (lv_sub hl [2, 1, 3, 0] rfl) _ _ hT hH hG hS
                                exact L84 (4 + 1) 0 (Nat.zero_le _) (by omega) y76 (zit_0 _ _).symm _ rfl ls (lv_sub hl [1, 2, 3, 0] rfl) H locs hT hH hG hS
                          exact L77 (zc13 M + 1) 0 (Nat.zero_le _) (by omega) N34 y59 (zit_0 _ _).symm _ rfl ls (lv_sub hl [1, 2, 0] rfl) H locs hT hH hG hS
                        · have hkk56 : k56 < zc11 M := z_lt hx61 ei57 hk56 (Nat.lt_of_le_of_lt (z_Ok.n11 hOk0) (by decide)) c62
                          refine lv_lload_n hx hb dX8_digest_159 rfl (lv_at hl 1 rfl) ?_
                          refine lv_ldc2 (v := 31) hx hb hown (hts (.constantLong RX8 259 31) (by decide +kernel)) dX8_digest_160 ?_
                          refine lv_lmul hx hb dX8_digest_163 ?_
                          refine lv_topl (fun y63 ey63 => ?_)
                          refine lv_aload_n hx hb dX8_digest_164 rfl (lv_at hl 0 rfl) ?_
                          refine lv_iload_n hx hb dX8_digest_165 rfl (lv_at hl 2 rfl) ?_
                          refine lv_iconst (v := 1) hx hb dX8_digest_166 (by decide) ?_
                          refine z_cVi (D := (dC, dI)) (cl := vwCl) (tys := zt ca) (nw := zw_nest) (C := RX8) (As := [.int i57, .int 1]) (rest := [.long y63]) ⟨hx, hb, hml, hown, hts⟩ (m_X8_ofFace l dC dI ca sf ad hI ad2 hI2 hq M N34 i57 1 hOk ⟨k56, hkk56, Nat.lt_trans (Nat.lt_of_lt_of_le hkk56 (z_Ok.n11 hOk0)) (by decide), ei57⟩) (cwV 2 hts gX8_digest_X8_ofFace rfl rfl rfl (by decide +kernel) ⟨Nat.le_of_ble_eq_true rfl, Nat.le_of_ble_eq_true rfl⟩) (z_recv (ci := 8) (i := 0) hK hT rfl (by decide) rfl) ⟨hT, hH, hG⟩ hK hN zw_nest_ok rfl hl.1 rfl (Nat.le_of_ble_eq_true rfl) dX8_digest_167 ⟨Nat.le_refl _, Nat.le_refl _⟩ hS (fun _ h => h) (fun H locs hB1 oq1 hz1 hS => ?_)
                          obtain ⟨hT, hH, hG⟩ := hB1
                          refine lv_topi (fun x64 ex64 => ?_)
                          refine lv_i2l hx hb dX8_digest_170 rfl ?_
                          refine lv_topl (fun y65 ey65 => ?_)
                          refine lv_ladd hx hb dX8_digest_171 ?_
                          refine lv_topl (fun y66 ey66 => ?_)
                          refine lv_lstore_n (lv' := [(1, .long y66), (0, .ref sf), (3, .int i57)]) hx hb dX8_digest_172 rfl hl (by decide) rfl (fun ls hl => ?_)
                          refine lv_lload_n hx hb dX8_digest_173 rfl (lv_at hl 0 rfl) ?_
                          refine lv_ldc2 (v := 31) hx hb hown (hts (.constantLong RX8 259 31) (by decide +kernel)) dX8_digest_174 ?_
                          refine lv_lmul hx hb dX8_digest_177 ?_
                          refine lv_topl (fun y67 ey67 => ?_)
                          refine lv_aload_n hx hb dX8_digest_178 rfl (lv_at hl 1 rfl) ?_
                          refine lv_iload_n hx hb dX8_digest_179 rfl (lv_at hl 2 rfl) ?_
                          refine lv_iconst (v := 0) hx hb dX8_digest_180 (by decide) ?_
                          refine z_cVi (D := (dC, dI)) (cl := vwCl) (tys := zt ca) (nw := zw_nest) (C := RX8) (As := [.int i57, .int 0]) (rest := [.long y67]) ⟨hx, hb, hml, hown, hts⟩ (m_X8_ofFace l dC dI ca sf ad hI ad2 hI2 hq M N34 i57 0 hOk ⟨k56, hkk56, Nat.lt_trans (Nat.lt_of_lt_of_le hkk56 (z_Ok.n11 hOk0)) (by decide), ei57⟩) (cwV 2 hts gX8_digest_X8_ofFace rfl rfl rfl (by decide +kernel) ⟨Nat.le_of_ble_eq_true rfl, Nat.le_of_ble_eq_true rfl⟩) (z_recv (ci := 8) (i := 0) hK hT rfl (by decide) rfl) ⟨hT, hH, hG⟩ hK hN zw_nest_ok rfl hl.1 rfl (Nat.le_of_ble_eq_true rfl) dX8_digest_181 ⟨Nat.le_refl _, Nat.le_refl _⟩ hS (fun _ h => h) (fun H locs hB1 oq1 hz1 hS => ?_)
                          obtain ⟨hT, hH, hG⟩ := hB1
                          refine lv_topi (fun x68 ex68 => ?_)
                          refine lv_i2l hx hb dX8_digest_184 rfl ?_
                          refine lv_topl (fun y69 ey69 => ?_)
                          refine lv_ladd hx hb dX8_digest_185 ?_
                          refine lv_topl (fun y70 ey70 => ?_)
                          refine lv_lstore_n (lv' := [(1, .long y70), (0, .ref sf), (3, .int i57)]) hx hb dX8_digest_186 rfl hl (by decide) rfl (fun ls hl => ?_)
                          obtain ⟨x71, ex71⟩ : ∃ z : Int32, z = i57 + 1 := ⟨_, rfl⟩
                          refine lv_iinc (v := x71) (lv' := [(3, .int x71), (1, .long y70), (0, .ref sf)]) hx hb dX8_digest_187 hl (k := 2) rfl (by rw [ex71]; rfl) (by decide) rfl (fun ls hl => ?_)
                          refine lv_goto (tgt := 148) hx hb dX8_digest_190 (by decide) ?_
                          exact ihk56 (k56 + 1) hkk56 (by omega) y70 (by rw [zit_s, ← esk56]; subst ex71; subst ey70; subst ey69; subst ex68; subst ey67; subst ey66; subst ey65; subst ex64; subst ey63; subst ex61; subst ei57; rfl) x71 (z_nx ei57 ex71) ls (lv_sub hl [2, 1, 0] rfl) _ _ hT hH hG hS
                    exact L60 (zc11 M + 1) 0 (Nat.zero_le _) (by omega) y35 (zit_0 _ _).symm _ rfl ls (lv_sub hl [1, 2, 0] rfl) H locs hT hH hG hS
                  · have hkk31 : k31 < zc12 M := z_lt hx37 ei32 hk31 (Nat.lt_of_le_of_lt (z_Ok.n12 hOk0) (by decide)) c38
                    refine lv_iconst (v := 0) hx hb dX8_digest_94 (by decide) ?_
                    refine lv_istore (lv' := [(4, .int 0), (0, .ref sf), (1, .long y35), (3, .int i32)]) hx hb dX8_digest_95 hl (by decide) rfl (fun ls hl => ?_)
                    have L43 : ∀ (d41 k39 : Nat), k39 ≤ 9 → 9 - k39 < d41 → ∀ y42 : Int64, y42 = zit (bX8_digest_97 M i32 N34) k39 y35 → ∀ i40 : Int32, i40 = nI k39 → ∀ ls : Array Slot, lv_has ls 5 [(0, .ref sf), (1, .long y42), (3, .int i32), (4, .int i40)] → ∀ (H : Heap) (locs : List Loc), zT dC dI ca sf (ad 0) (ad2 0) H → zW dC dI ca ad M H → zW dC dI ca ad2 N34 H → va_S (zA2 ad ad2) s.heap H locs → W p l e (headSpec wsX8_digest ({ frames := 6, cells := 0, slots := 0, locals := 148 })).room s m ([.ref sf] : List Value).toArray below meth c H locs 0 0 (MQ below (z_Ql (rX8_digest M N ) (fun H => zT dC dI ca sf (ad 0) (ad2 0) H ∧ zW dC dI ca ad M H ∧ zW dC dI ca ad2 (gX8_digest M N ) H) (zA2 ad ad2)) ([.ref sf] : List Value).toArray s 0 0 (zA2 ad ad2)) (F0 m 97 ls []) := by
                      intro d41
                      induction d41 with
                      | zero => intro k39 hk39 hd; exact absurd hd (by omega)
                      | succ d41 ihk39 =>
                        intro k39 hk39 hd y42 esk39 i40 ei40 ls hl H locs hT hH hG hS
                        refine lv_iload hx hb dX8_digest_97 (lv_at hl 3 rfl) ?_
                        refine lv_bipush (v := 9) hx hb dX8_digest_99 (by decide) ?_
                        refine lv_icmp_ge (tgt := 125) hx hb dX8_digest_101 (by decide) (fun c44 => ?_) (fun c44 => ?_)
                        · have hkk39 : k39 = 9 := z_ge rfl ei40 hk39 (by decide) c44
                          have qy42 : y42 = (zit (bX8_digest_97 M i32 N34) (9) y35) := by rw [← hkk39, ← esk39]
                          refine lv_lload_n hx hb dX8_digest_125 rfl (lv_at hl 1 rfl) ?_
                          refine lv_ldc2 (v := 31) hx hb hown (hts (.constantLong RX8 259 31) (by decide +kernel)) dX8_digest_126 ?_
                          refine lv_lmul hx hb dX8_digest_129 ?_
                          refine lv_topl (fun y50 ey50 => ?_)
                          refine lv_aload_n hx hb dX8_digest_130 rfl (lv_at hl 0 rfl) ?_
                          refine lv_iload_n hx hb dX8_digest_131 rfl (lv_at hl 2 rfl) ?_
                          refine lv_bipush (v := 100) hx hb dX8_digest_132 (by decide) ?_
                          refine z_cVi (D := (dC, dI)) (cl := vwCl) (tys := zt ca) (nw := zw_nest) (C := RX8) (As := [.int i32, .int 100]) (rest := [.long y50]) ⟨hx, hb, hml, hown, hts⟩ (m_X8_coldIn l dC dI ca sf ad hI ad2 hI2 hq M N34 i32 100 hOk ⟨k31, hkk31, Nat.lt_trans (Nat.lt_of_lt_of_le hkk31 (z_Ok.n12 hOk0)) (by decide), ei32⟩ ⟨by decide, by decide⟩ h_run) (cwV 2 hts gX8_digest_X8_coldIn rfl rfl rfl (by decide +kernel) ⟨Nat.le_of_ble_eq_true rfl, Nat.le_of_ble_eq_true rfl⟩) (z_recv (ci := 8) (i := 0) hK hT rfl (by decide) rfl) ⟨hT, hH, hG⟩ hK hN zw_nest_ok rfl hl.1 rfl (Nat.le_of_ble_eq_true rfl) dX8_digest_134 ⟨Nat.le_refl _, Nat.le_refl _⟩ hS (fun _ h => h) (fun H locs hB1 oq1 hz1 hS => ?_)
                          obtain ⟨hT, hH, hG⟩ := hB1
                          refine lv_topi (fun x51 ex51 => ?_)
                          obtain ⟨M52, hM52⟩ : ∃ z : zM, z = gX8_coldIn M N34 i32 100 := ⟨_, rfl⟩
                          have hG : z_H (dC, dI) vwCl zf ca zd ad2 M52 H := by rw [hM52]; exact hG
                          refine lv_i2l hx hb dX8_digest_137 rfl ?_
                          refine lv_topl (fun y53 ey53 => ?_)
                          refine lv_ladd hx hb dX8_digest_138 ?_
                          refine lv_topl (fun y54 ey54 => ?_)
                          refine lv_lstore_n (lv' := [(1, .long y54), (0, .ref sf), (3, .int i32), (4, .int i40)]) hx hb dX8_digest_139 rfl hl (by decide) rfl (fun ls hl => ?_)
                          obtain ⟨x55, ex55⟩ : ∃ z : Int32, z = i32 + 1 := ⟨_, rfl⟩
                          refine lv_iinc (v := x55) (lv' := [(3, .int x55), (1, .long y54), (0, .ref sf), (4, .int i40)]) hx hb dX8_digest_140 hl (k := 2) rfl (by rw [ex55]; rfl) (by decide) rfl (fun ls hl => ?_)
                          refine lv_goto (tgt := 83) hx hb dX8_digest_143 (by decide) ?_
                          exact ihk31 (k31 + 1) hkk31 (by omega) M52 y54 (by rw [zit_s, ← esk31]; subst ex55; subst ey54; subst ey53; subst hM52; subst ex51; subst ey50; subst qy42; subst ex37; subst ei32; rfl) x55 (z_nx ei32 ex55) ls (lv_sub hl [2, 1, 0] rfl) _ _ hT hH hG hS
                        · have hkk39 : k39 < 9 := z_lt rfl ei40 hk39 (by decide) c44
                          refine lv_lload_n hx hb dX8_digest_104 rfl (lv_at hl 1 rfl) ?_
                          refine lv_ldc2 (v := 31) hx hb hown (hts (.constantLong RX8 259 31) (by decide +kernel)) dX8_digest_105 ?_
                          refine lv_lmul hx hb dX8_digest_108 ?_
                          refine lv_topl (fun y45 ey45 => ?_)
                          refine lv_aload_n hx hb dX8_digest_109 rfl (lv_at hl 0 rfl) ?_
                          refine lv_iload_n hx hb dX8_digest_110 rfl (lv_at hl 2 rfl) ?_
                          refine lv_iload hx hb dX8_digest_111 (lv_at hl 3 rfl) ?_
                          refine z_cVi (D := (dC, dI)) (cl := vwCl) (tys := zt ca) (nw := zw_nest) (C := RX8) (As := [.int i32, .int i40]) (rest := [.long y45]) ⟨hx, hb, hml, hown, hts⟩ (m_X8_ofWell l dC dI ca sf ad hI ad2 hI2 hq M N34 i32 i40 hOk ⟨k31, hkk31, Nat.lt_trans (Nat.lt_of_lt_of_le hkk31 (z_Ok.n12 hOk0)) (by decide), ei32⟩ (z_rg_k ei40 hkk39 (by decide) rfl)) (cwV 2 hts gX8_digest_X8_ofWell rfl rfl rfl (by decide +kernel) ⟨Nat.le_of_ble_eq_true rfl, Nat.le_of_ble_eq_true rfl⟩) (z_recv (ci := 8) (i := 0) hK hT rfl (by decide) rfl) ⟨hT, hH, hG⟩ hK hN zw_nest_ok rfl hl.1 rfl (Nat.le_of_ble_eq_true rfl) dX8_digest_113 ⟨Nat.le_refl _, Nat.le_refl _⟩ hS (fun _ h => h) (fun H locs hB1 oq1 hz1 hS => ?_)
                          obtain ⟨hT, hH, hG⟩ := hB1
                          refine lv_topi (fun x46 ex46 => ?_)
                          refine lv_i2l hx hb dX8_digest_116 rfl ?_
                          refine lv_topl (fun y47 ey47 => ?_)
                          refine lv_ladd hx hb dX8_digest_117 ?_
                          refine lv_topl (fun y48 ey48 => ?_)
                          refine lv_lstore_n (lv' := [(1, .long y48), (0, .ref sf), (3, .int i32), (4, .int i40)]) hx hb dX8_digest_118 rfl hl (by decide) rfl (fun ls hl => ?_)
                          obtain ⟨x49, ex49⟩ : ∃ z : Int32, z = i40 + 1 := ⟨_, rfl⟩
                          refine lv_iinc (v := x49) (lv' := [(4, .int x49), (1, .long y48), (0, .ref sf), (3, .int i32)]) hx hb dX8_digest_119 hl (k := 3) rfl (by rw [ex49]; rfl) (by decide) rfl (fun ls hl => ?_)
                          refine lv_goto (tgt := 97) hx hb dX8_digest_122 (by decide) ?_
                          exact ihk39 (k39 + 1) hkk39 (by omega) y48 (by rw [zit_s, ← esk39]; subst ex49; subst ey48; subst ey47; subst ex46; subst ey45; subst ei40; rfl) x49 (z_nx ei40 ex49) ls (lv_sub hl [2, 1, 3, 0] rfl) _ _ hT hH hG hS
                    exact L43 (9 + 1) 0 (Nat.zero_le _) (by omega) y35 (zit_0 _ _).symm _ rfl ls (lv_sub hl [1, 2, 3, 0] rfl) H locs hT hH hG hS
              exact L36 (zc12 M + 1) 0 (Nat.zero_le _) (by omega) N y15 (zit_0 _ _).symm _ rfl ls (lv_sub hl [1, 2, 0] rfl) H locs hT hH hG hS
            · have hkk12 : k12 < zc10 M := z_lt hx17 ei13 hk12 (Nat.lt_of_le_of_lt (z_Ok.n10 hOk0) (by decide)) c18
              refine lv_iconst (v := 0) hx hb dX8_digest_44 (by decide) ?_
              refine lv_istore (lv' := [(4, .int 0), (0, .ref sf), (1, .long y15), (3, .int i13)]) hx hb dX8_digest_45 hl (by decide) rfl (fun ls hl => ?_)
              have L23 : ∀ (d21 k19 : Nat), k19 ≤ 6 → 6 - k19 < d21 → ∀ y22 : Int64, y22 = zit (bX8_digest_47 M N i13) k19 y15 → ∀ i20 : Int32, i20 = nI k19 → ∀ ls : Array Slot, lv_has ls 5 [(0, .ref sf), (1, .long y22), (3, .int i13), (4, .int i20)] → ∀ (H : Heap) (locs : List Loc), zT dC dI ca sf (ad 0) (ad2 0) H → zW dC dI ca ad M H → zW dC dI ca ad2 N H → va_S (zA2 ad ad2) s.heap H locs → W p l e (headSpec wsX8_digest ({ frames := 6, cells := 0, slots := 0, locals := 148 })).room s m ([.ref sf] : List Value).toArray below meth c H locs 0 0 (MQ below (z_Ql (rX8_digest M N ) (fun H => zT dC dI ca sf (ad 0) (ad2 0) H ∧ zW dC dI ca ad M H ∧ zW dC dI ca ad2 (gX8_digest M N ) H) (zA2 ad ad2)) ([.ref sf] : List Value).toArray s 0 0 (zA2 ad ad2)) (F0 m 47 ls []) := by
                intro d21
                induction d21 with
                | zero => intro k19 hk19 hd; exact absurd hd (by omega)
                | succ d21 ihk19 =>
                  intro k19 hk19 hd y22 esk19 i20 ei20 ls hl H locs hT hH hG hS
                  refine lv_iload hx hb dX8_digest_47 (lv_at hl 3 rfl) ?_
                  refine lv_bipush (v := 6) hx hb dX8_digest_49 (by decide) ?_
                  refine lv_icmp_ge (tgt := 75) hx hb dX8_digest_51 (by decide) (fun c24 => ?_) (fun c24 => ?_)
                  · have hkk19 : k19 = 6 := z_ge rfl ei20 hk19 (by decide) c24
                    have qy22 : y22 = (zit (bX8_digest_47 M N i13) (6) y15) := by rw [← hkk19, ← esk19]
                    obtain ⟨x30, ex30⟩ : ∃ z : Int32, z = i13 + 1 := ⟨_, rfl⟩
                    refine lv_iinc (v := x30) (lv' := [(3, .int x30), (0, .ref sf), (1, .long y22), (4, .int i20)]) hx hb dX8_digest_75 hl (k := 2) rfl (by rw [ex30]; rfl) (by decide) rfl (fun ls hl => ?_)
                    refine lv_goto (tgt := 33) hx hb dX8_digest_78 (by decide) ?_
                    exact ihk12 (k12 + 1) hkk12 (by omega) y22 (by rw [zit_s, ← esk12]; subst ex30; subst qy22; subst ex17; subst ei13; rfl) x30 (z_nx ei13 ex30) ls (lv_sub hl [1, 2, 0] rfl) _ _ hT hH hG hS
                  · have hkk19 : k19 < 6 := z_lt rfl ei20 hk19 (by decide) c24
                    refine lv_lload_n hx hb dX8_digest_54 rfl (lv_at hl 1 rfl) ?_
                    refine lv_ldc2 (v := 31) hx hb hown (hts (.constantLong RX8 259 31) (by decide +kernel)) dX8_digest_55 ?_
                    refine lv_lmul hx hb dX8_digest_58 ?_
                    refine lv_topl (fun y25 ey25 => ?_)
                    refine lv_aload_n hx hb dX8_digest_59 rfl (lv_at hl 0 rfl) ?_
                    refine lv_iload_n hx hb dX8_digest_60 rfl (lv_at hl 2 rfl) ?_
                    refine lv_iload hx hb dX8_digest_61 (lv_at hl 3 rfl) ?_
                    refine z_cVi (D := (dC, dI)) (cl := vwCl) (tys := zt ca) (nw := zw_nest) (C := RX8) (As := [.int i13, .int i20]) (rest := [.long y25]) ⟨hx, hb, hml, hown, hts⟩ (m_X8_ofBlock l dC dI ca sf ad hI ad2 hI2 hq M N i13 i20 hOk ⟨k12, hkk12, Nat.lt_trans (Nat.lt_of_lt_of_le hkk12 (z_Ok.n10 hOk0)) (by decide), ei13⟩ (z_rg_k ei20 hkk19 (by decide) rfl)) (cwV 2 hts gX8_digest_X8_ofBlock rfl rfl rfl (by decide +kernel) ⟨Nat.le_of_ble_eq_true rfl, Nat.le_of_ble_eq_true rfl⟩) (z_recv (ci := 8) (i := 0) hK hT rfl (by decide) rfl) ⟨hT, hH, hG⟩ hK hN zw_nest_ok rfl hl.1 rfl (Nat.le_of_ble_eq_true rfl) dX8_digest_63 ⟨Nat.le_refl _, Nat.le_refl _⟩ hS (fun _ h => h) (fun H locs hB1 oq1 hz1 hS => ?_)
                    obtain ⟨hT, hH, hG⟩ := hB1
                    refine lv_topi (fun x26 ex26 => ?_)
                    refine lv_i2l hx hb dX8_digest_66 rfl ?_
                    refine lv_topl (fun y27 ey27 => ?_)
                    refine lv_ladd hx hb dX8_digest_67 ?_
                    refine lv_topl (fun y28 ey28 => ?_)
                    refine lv_lstore_n (lv' := [(1, .long y28), (0, .ref sf), (3, .int i13), (4, .int i20)]) hx hb dX8_digest_68 rfl hl (by decide) rfl (fun ls hl => ?_)
                    obtain ⟨x29, ex29⟩ : ∃ z : Int32, z = i20 + 1 := ⟨_, rfl⟩
                    refine lv_iinc (v := x29) (lv' := [(4, .int x29), (1, .long y28), (0, .ref sf), (3, .int i13)]) hx hb dX8_digest_69 hl (k := 3) rfl (by rw [ex29]; rfl) (by decide) rfl (fun ls hl => ?_)
                    refine lv_goto (tgt := 47) hx hb dX8_digest_72 (by decide) ?_
                    exact ihk19 (k19 + 1) hkk19 (by omega) y28 (by rw [zit_s, ← esk19]; subst ex29; subst ey28; subst ey27; subst ex26; subst ey25; subst ei20; rfl) x29 (z_nx ei20 ex29) ls (lv_sub hl [2, 1, 3, 0] rfl) _ _ hT hH hG hS
              exact L23 (6 + 1) 0 (Nat.zero_le _) (by omega) y15 (zit_0 _ _).symm _ rfl ls (lv_sub hl [1, 2, 3, 0] rfl) H locs hT hH hG hS
        exact L16 (zc10 M + 1) 0 (Nat.zero_le _) (by omega) y4 (zit_0 _ _).symm _ rfl ls (lv_sub hl [1, 2, 0] rfl) H locs hT hH hG hS
      · have hkk1 : k1 < 13 := z_lt rfl ei2 hk1 (by decide) c6
        refine lv_lload_n hx hb dX8_digest_12 rfl (lv_at hl 1 rfl) ?_
        refine lv_ldc2 (v := 31) hx hb hown (hts (.constantLong RX8 259 31) (by decide +kernel)) dX8_digest_13 ?_
        refine lv_lmul hx hb dX8_digest_16 ?_
        refine lv_topl (fun y7 ey7 => ?_)
        refine lv_aload_n hx hb dX8_digest_17 rfl (lv_at hl 0 rfl) ?_
        refine lv_iload_n hx hb dX8_digest_18 rfl (lv_at hl 2 rfl) ?_
        refine z_cVi (D := (dC, dI)) (cl := vwCl) (tys := zt ca) (nw := zw_nest) (C := RX8) (As := [.int i2]) (rest := [.long y7]) ⟨hx, hb, hml, hown, hts⟩ (m_X8_many l dC dI ca sf ad hI ad2 hI2 hq M N i2 hOk (z_rg_k ei2 hkk1 (by decide) rfl)) (cwV 1 hts gX8_digest_X8_many rfl rfl rfl (by decide +kernel) ⟨Nat.le_of_ble_eq_true rfl, Nat.le_of_ble_eq_true rfl⟩) (z_recv (ci := 8) (i := 0) hK hT rfl (by decide) rfl) ⟨hT, hH, hG⟩ hK hN zw_nest_ok rfl hl.1 rfl (Nat.le_of_ble_eq_true rfl) dX8_digest_19 ⟨Nat.le_refl _, Nat.le_refl _⟩ hS (fun _ h => h) (fun H locs hB1 oq1 hz1 hS => ?_)
        obtain ⟨hT, hH, hG⟩ := hB1
        refine lv_topi (fun x8 ex8 => ?_)
        refine lv_i2l hx hb dX8_digest_22 rfl ?_
        refine lv_topl (fun y9 ey9 => ?_)
        refine lv_ladd hx hb dX8_digest_23 ?_
        refine lv_topl (fun y10 ey10 => ?_)
        refine lv_lstore_n (lv' := [(1, .long y10), (0, .ref sf), (3, .int i2)]) hx hb dX8_digest_24 rfl hl (by decide) rfl (fun ls hl => ?_)
        obtain ⟨x11, ex11⟩ : ∃ z : Int32, z = i2 + 1 := ⟨_, rfl⟩
        refine lv_iinc (v := x11) (lv' := [(3, .int x11), (1, .long y10), (0, .ref sf)]) hx hb dX8_digest_25 hl (k := 2) rfl (by rw [ex11]; rfl) (by decide) rfl (fun ls hl => ?_)
        refine lv_goto (tgt := 6) hx hb dX8_digest_28 (by decide) ?_
        exact ihk1 (k1 + 1) hkk1 (by omega) y10 (by rw [zit_s, ← esk1]; subst ex11; subst ey10; subst ey9; subst ex8; subst ey7; subst ei2; rfl) x11 (z_nx ei2 ex11) ls (lv_sub hl [2, 1, 0] rfl) _ _ hT hH hG hS
  exact L5 (13 + 1) 0 (Nat.zero_le _) (by omega) 58177 (zit_0 _ _).symm _ rfl ls (lv_sub hl [2, 1, 0] rfl) s.heap [] hT hH hG hS

