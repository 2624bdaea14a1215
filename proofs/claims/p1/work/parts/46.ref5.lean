set_option maxHeartbeats 4000000 in
set_option maxRecDepth 100000 in
theorem m_X9_copy_b (l : Launch) (dC : Nat → ClassId) (dI : Nat → Nat → Nat) (ca : Nat → ClassId) (ad : Nat → Nat) (hI : z_I yd ad) (ad2 : Nat → Nat) (hI2 : z_I yd ad2) (hX : ∀ i j, yd.1 i < 200 → yd.1 j < 200 → ad i ≠ ad2 j) : Met l yX9_copy_ wsX9_copy_ ({ frames := 1, cells := 0, slots := 0, locals := 26 }) (z_Py (dC, dI) vwCl (yt ca) zw_nest [.ref (ad 1), .ref (ad2 1)] (fun H => yW dC dI ca ad (yM 0) H ∧ yW dC dI ca ad2 (yM 0) H)) (z_Qv (fun H => yW dC dI ca ad (yM 0) H ∧ yW dC dI ca ad2 (yM 0) H) (z_A yd ad2)) 0 0 (z_A yd ad2) := by
  refine Met.ofW (cc := cX9_copy_) (maxL := 3) (ret := none) (by decide) rfl ?_
  intro p e s m args below meth c s₁ B9 hml hv
  obtain ⟨rfl, ⟨hH, hG⟩, hK, hN, hXo⟩ := hv
  have hx := B9.exec
  have hb := B9.bytes
  have hr := B9.returns
  have hts := atoms_spec (ws := wsX9_copy_) B9.pre
  have hown : s.vm.findClass RX9 = some m.cls := findClass_of_methodNamed B9.named
  have hlocks := B9.notSynchronized
  have hS : va_S (z_A yd ad2) s.heap s.heap [] := va_S.rf
  have hl := lv_entry ([.ref (ad 1), .ref (ad2 1)]) (n := 3) (Nat.le_of_ble_eq_true rfl)
  rw [lg_entry_eq]
  generalize (lg_sl ([.ref (ad 1), .ref (ad2 1)]) ++ List.replicate (3 - (lg_sl ([.ref (ad 1), .ref (ad2 1)])).length) Slot.unset).toArray = ls at hl ⊢
  have hl : lv_has ls 3 [(0, .ref (ad 1)), (1, .ref (ad2 1))] := hl
  refine lv_iconst (v := 0) hx hb dX9_copy__0 (by decide) ?_
  refine lv_istore_n (lv' := [(2, .int 0), (0, .ref (ad 1)), (1, .ref (ad2 1))]) hx hb dX9_copy__1 rfl hl (by decide) rfl (fun ls hl => ?_)
  refine lv_iload_n hx hb dX9_copy__2 rfl (lv_at hl 0 rfl) ?_
  refine lv_aload_n hx hb dX9_copy__3 rfl (lv_at hl 1 rfl) ?_
  refine y_len (D := (dC, dI)) (cl := vwCl) (tys := yt ca) (t0 := 1) (v := 8) hx hb hK hH (i := 1) yk_1 (by decide) (by decide) rfl (by decide) dX9_copy__4 ?_
  refine lv_icmp_ge (tgt := 29) hx hb dX9_copy__5 (by decide) (fun c9 => absurd c9 (by decide)) (fun _ => ?_)
  refine lv_aload_n hx hb dX9_copy__8 rfl (lv_at hl 1 rfl) ?_
  refine lv_iload_n hx hb dX9_copy__9 rfl (lv_at hl 0 rfl) ?_
  refine y_aq (D := (dC, dI)) (cl := vwCl) (tys := yt ca) (t0 := 1) (j := 2) hx hb hK hH (i := 1) yk_1 (by decide) (by decide) rfl (show vp_in 0 8 from zx (n := 0) rfl (by decide) (by decide)) (by decide) dX9_copy__10 ?_
  refine lv_iconst (v := 0) hx hb dX9_copy__11 (by decide) ?_
  refine lv_aload_n hx hb dX9_copy__12 rfl (lv_at hl 2 rfl) ?_
  refine lv_iload_n hx hb dX9_copy__13 rfl (lv_at hl 0 rfl) ?_
  refine y_aq (D := (dC, dI)) (cl := vwCl) (tys := yt ca) (t0 := 1) (j := 2) hx hb hK hG (i := 1) yk_1 (by decide) (by decide) rfl (show vp_in 0 8 from zx (n := 0) rfl (by decide) (by decide)) (by decide) dX9_copy__14 ?_
  refine lv_iconst (v := 0) hx hb dX9_copy__15 (by decide) ?_
  refine lv_aload_n hx hb dX9_copy__16 rfl (lv_at hl 1 rfl) ?_
  refine lv_iload_n hx hb dX9_copy__17 rfl (lv_at hl 0 rfl) ?_
  refine y_aq (D := (dC, dI)) (cl := vwCl) (tys := yt ca) (t0 := 1) (j := 2) hx hb hK hH (i := 1) yk_1 (by decide) (by decide) rfl (show vp_in 0 8 from zx (n := 0) rfl (by decide) (by decide)) (by decide) dX9_copy__18 ?_
  refine y_len (D := (dC, dI)) (cl := vwCl) (tys := yt ca) (t0 := 0) (v := 6) hx hb hK hH (i := 2) yk_2 (by decide) (by decide) rfl (by decide) dX9_copy__19 ?_
  refine y_cp (t0 := 0) (n := 6) (i := 2) (j := 2) hx hb (hml.trans hl.1.symm) hown (hts (.methodLink RX9 72 arraycopyName) (by decide +kernel)) (hts (.native arraycopyName) (by decide +kernel)) (hts (.static arraycopyName) (by decide +kernel)) (hts (.initialized "java/lang/System") (by decide +kernel)) hK hG hH hI2 hS (fun _ h => h) yk_2 yk_2 rfl rfl (by decide) (by decide) (by decide) (Nat.le_of_ble_eq_true rfl) (Nat.le_of_ble_eq_true rfl) dX9_copy__20 (fun H locs hG oq hS => ?_)
  have hH := hH.kept (fun i hi => oq _ (hX i 2 hi (by rw [yk_2]; decide)))
  refine lv_iinc (v := 1) (lv' := [(2, .int 1), (0, .ref (ad 1)), (1, .ref (ad2 1))]) hx hb dX9_copy__23 hl (k := 0) rfl (by decide) (by decide) rfl (fun ls hl => ?_)
  refine lv_goto (tgt := 2) hx hb dX9_copy__26 (by decide) ?_
  refine lv_iload_n hx hb dX9_copy__2 rfl (lv_at hl 0 rfl) ?_
  refine lv_aload_n hx hb dX9_copy__3 rfl (lv_at hl 1 rfl) ?_
  refine y_len (D := (dC, dI)) (cl := vwCl) (tys := yt ca) (t0 := 1) (v := 8) hx hb hK hH (i := 1) yk_1 (by decide) (by decide) rfl (by decide) dX9_copy__4 ?_
  refine lv_icmp_ge (tgt := 29) hx hb dX9_copy__5 (by decide) (fun c9 => absurd c9 (by decide)) (fun _ => ?_)
  refine lv_aload_n hx hb dX9_copy__8 rfl (lv_at hl 1 rfl) ?_
  refine lv_iload_n hx hb dX9_copy__9 rfl (lv_at hl 0 rfl) ?_
  refine y_aq (D := (dC, dI)) (cl := vwCl) (tys := yt ca) (t0 := 1) (j := 3) hx hb hK hH (i := 1) yk_1 (by decide) (by decide) rfl (show vp_in 1 8 from zx (n := 1) rfl (by decide) (by decide)) (by decide) dX9_copy__10 ?_
  refine lv_iconst (v := 0) hx hb dX9_copy__11 (by decide) ?_
  refine lv_aload_n hx hb dX9_copy__12 rfl (lv_at hl 2 rfl) ?_
  refine lv_iload_n hx hb dX9_copy__13 rfl (lv_at hl 0 rfl) ?_
  refine y_aq (D := (dC, dI)) (cl := vwCl) (tys := yt ca) (t0 := 1) (j := 3) hx hb hK hG (i := 1) yk_1 (by decide) (by decide) rfl (show vp_in 1 8 from zx (n := 1) rfl (by decide) (by decide)) (by decide) dX9_copy__14 ?_
  refine lv_iconst (v := 0) hx hb dX9_copy__15 (by decide) ?_
  refine lv_aload_n hx hb dX9_copy__16 rfl (lv_at hl 1 rfl) ?_
  refine lv_iload_n hx hb dX9_copy__17 rfl (lv_at hl 0 rfl) ?_
  refine y_aq (D := (dC, dI)) (cl := vwCl) (tys := yt ca) (t0 := 1) (j := 3) hx hb hK hH (i := 1) yk_1 (by decide) (by decide) rfl (show vp_in 1 8 from zx (n := 1) rfl (by decide) (by decide)) (by decide) dX9_copy__18 ?_
  refine y_len (D := (dC, dI)) (cl := vwCl) (tys := yt ca) (t0 := 0) (v := 6) hx hb hK hH (i := 3) yk_3 (by decide) (by decide) rfl (by decide) dX9_copy__19 ?_
  refine y_cp (t0 := 0) (n := 6) (i := 3) (j := 3) hx hb (hml.trans hl.1.symm) hown (hts (.methodLink RX9 72 arraycopyName) (by decide +kernel)) (hts (.native arraycopyName) (by decide +kernel)) (hts (.static arraycopyName) (by decide +kernel)) (hts (.initialized "java/lang/System") (by decide +kernel)) hK hG hH hI2 hS (fun _ h => h) yk_3 yk_3 rfl rfl (by decide) (by decide) (by decide) (Nat.le_of_ble_eq_true rfl) (Nat.le_of_ble_eq_true rfl) dX9_copy__20 (fun H locs hG oq hS => ?_)
  have hH := hH.kept (fun i hi => oq _ (hX i 3 hi (by rw [yk_3]; decide)))
  refine lv_iinc (v := 2) (lv' := [(2, .int 2), (0, .ref (ad 1)), (1, .ref (ad2 1))]) hx hb dX9_copy__23 hl (k := 0) rfl (by decide) (by decide) rfl (fun ls hl => ?_)
  refine lv_goto (tgt := 2) hx hb dX9_copy__26 (by decide) ?_
  refine lv_iload_n hx hb dX9_copy__2 rfl (lv_at hl 0 rfl) ?_
  refine lv_aload_n hx hb dX9_copy__3 rfl (lv_at hl 1 rfl) ?_
  refine y_len (D := (dC, dI)) (cl := vwCl) (tys := yt ca) (t0 := 1) (v := 8) hx hb hK hH (i := 1) yk_1 (by decide) (by decide) rfl (by decide) dX9_copy__4 ?_
  refine lv_icmp_ge (tgt := 29) hx hb dX9_copy__5 (by decide) (fun c9 => absurd c9 (by decide)) (fun _ => ?_)
  refine lv_aload_n hx hb dX9_copy__8 rfl (lv_at hl 1 rfl) ?_
  refine lv_iload_n hx hb dX9_copy__9 rfl (lv_at hl 0 rfl) ?_
  refine y_aq (D := (dC, dI)) (cl := vwCl) (tys := yt ca) (t0 := 1) (j := 4) hx hb hK hH (i := 1) yk_1 (by decide) (by decide) rfl (show vp_in 2 8 from zx (n := 2) rfl (by decide) (by decide)) (by decide) dX9_copy__10 ?_
  refine lv_iconst (v := 0) hx hb dX9_copy__11 (by decide) ?_
  refine lv_aload_n hx hb dX9_copy__12 rfl (lv_at hl 2 rfl) ?_
  refine lv_iload_n hx hb dX9_copy__13 rfl (lv_at hl 0 rfl) ?_
  refine y_aq (D := (dC, dI)) (cl := vwCl) (tys := yt ca) (t0 := 1) (j := 4) hx hb hK hG (i := 1) yk_1 (by decide) (by decide) rfl (show vp_in 2 8 from zx (n := 2) rfl (by decide) (by decide)) (by decide) dX9_copy__14 ?_
  refine lv_iconst (v := 0) hx hb dX9_copy__15 (by decide) ?_
  refine lv_aload_n hx hb dX9_copy__16 rfl (lv_at hl 1 rfl) ?_
  refine lv_iload_n hx hb dX9_copy__17 rfl (lv_at hl 0 rfl) ?_
  refine y_aq (D := (dC, dI)) (cl := vwCl) (tys := yt ca) (t0 := 1) (j := 4) hx hb hK hH (i := 1) yk_1 (by decide) (by decide) rfl (show vp_in 2 8 from zx (n := 2) rfl (by decide) (by decide)) (by decide) dX9_copy__18 ?_
  refine y_len (D := (dC, dI)) (cl := vwCl) (tys := yt ca) (t0 := 0) (v := 6) hx hb hK hH (i := 4) yk_4 (by decide) (by decide) rfl (by decide) dX9_copy__19 ?_
  refine y_cp (t0 := 0) (n := 6) (i := 4) (j := 4) hx hb (hml.trans hl.1.symm) hown (hts (.methodLink RX9 72 arraycopyName) (by decide +kernel)) (hts (.native arraycopyName) (by decide +kernel)) (hts (.static arraycopyName) (by decide +kernel)) (hts (.initialized "java/lang/System") (by decide +kernel)) hK hG hH hI2 hS (fun _ h => h) yk_4 yk_4 rfl rfl (by decide) (by decide) (by decide) (Nat.le_of_ble_eq_true rfl) (Nat.le_of_ble_eq_true rfl) dX9_copy__20 (fun H locs hG oq hS => ?_)
  have hH := hH.kept (fun i hi => oq _ (hX i 4 hi (by rw [yk_4]; decide)))
  refine lv_iinc (v := 3) (lv' := [(2, .int 3), (0, .ref (ad 1)), (1, .ref (ad2 1))]) hx hb dX9_copy__23 hl (k := 0) rfl (by decide) (by decide) rfl (fun ls hl => ?_)
  refine lv_goto (tgt := 2) hx hb dX9_copy__26 (by decide) ?_
  refine lv_iload_n hx hb dX9_copy__2 rfl (lv_at hl 0 rfl) ?_
  refine lv_aload_n hx hb dX9_copy__3 rfl (lv_at hl 1 rfl) ?_
  refine y_len (D := (dC, dI)) (cl := vwCl) (tys := yt ca) (t0 := 1) (v := 8) hx hb hK hH (i := 1) yk_1 (by decide) (by decide) rfl (by decide) dX9_copy__4 ?_
  refine lv_icmp_ge (tgt := 29) hx hb dX9_copy__5 (by decide) (fun c9 => absurd c9 (by decide)) (fun _ => ?_)
  refine lv_aload_n hx hb dX9_copy__8 rfl (lv_at hl 1 rfl) ?_
  refine lv_iload_n hx hb dX9_copy__9 rfl (lv_at hl 0 rfl) ?_
  refine y_aq (D := (dC, dI)) (cl := vwCl) (tys := yt ca) (t0 := 1) (j := 5) hx hb hK hH (i := 1) yk_1 (by decide) (by decide) rfl (show vp_in 3 8 from zx (n := 3) rfl (by decide) (by decide)) (by decide) dX9_copy__10 ?_
  refine lv_iconst (v := 0) hx hb dX9_copy__11 (by decide) ?_
  refine lv_aload_n hx hb dX9_copy__12 rfl (lv_at hl 2 rfl) ?_
  refine lv_iload_n hx hb dX9_copy__13 rfl (lv_at hl 0 rfl) ?_
  refine y_aq (D := (dC, dI)) (cl := vwCl) (tys := yt ca) (t0 := 1) (j := 5) hx hb hK hG (i := 1) yk_1 (by decide) (by decide) rfl (show vp_in 3 8 from zx (n := 3) rfl (by decide) (by decide)) (by decide) dX9_copy__14 ?_
  refine lv_iconst (v := 0) hx hb dX9_copy__15 (by decide) ?_
  refine lv_aload_n hx hb dX9_copy__16 rfl (lv_at hl 1 rfl) ?_
  refine lv_iload_n hx hb dX9_copy__17 rfl (lv_at hl 0 rfl) ?_
  refine y_aq (D := (dC, dI)) (cl := vwCl) (tys := yt ca) (t0 := 1) (j := 5) hx hb hK hH (i := 1) yk_1 (by decide) (by decide) rfl (show vp_in 3 8 from zx (n := 3) rfl (by decide) (by decide)) (by decide) dX9_copy__18 ?_
  refine y_len (D := (dC, dI)) (cl := vwCl) (tys := yt ca) (t0 := 0) (v := 6) hx hb hK hH (i := 5) yk_5 (by decide) (by decide) rfl (by decide) dX9_copy__19 ?_
  refine y_cp (t0 := 0) (n := 6) (i := 5) (j := 5) hx hb (hml.trans hl.1.symm) hown (hts (.methodLink RX9 72 arraycopyName) (by decide +kernel)) (hts (.native arraycopyName) (by decide +kernel)) (hts (.static arraycopyName) (by decide +kernel)) (hts (.initialized "java/lang/System") (by decide +kernel)) hK hG hH hI2 hS (fun _ h => h) yk_5 yk_5 rfl rfl (by decide) (by decide) (by decide) (Nat.le_of_ble_eq_true rfl) (Nat.le_of_ble_eq_true rfl) dX9_copy__20 (fun H locs hG oq hS => ?_)
  have hH := hH.kept (fun i hi => oq _ (hX i 5 hi (by rw [yk_5]; decide)))
  refine lv_iinc (v := 4) (lv' := [(2, .int 4), (0, .ref (ad 1)), (1, .ref (ad2 1))]) hx hb dX9_copy__23 hl (k := 0) rfl (by decide) (by decide) rfl (fun ls hl => ?_)
  refine lv_goto (tgt := 2) hx hb dX9_copy__26 (by decide) ?_
  refine lv_iload_n hx hb dX9_copy__2 rfl (lv_at hl 0 rfl) ?_
  refine lv_aload_n hx hb dX9_copy__3 rfl (lv_at hl 1 rfl) ?_
  refine y_len (D := (dC, dI)) (cl := vwCl) (tys := yt ca) (t0 := 1) (v := 8) hx hb hK hH (i := 1) yk_1 (by decide) (by decide) rfl (by decide) dX9_copy__4 ?_
  refine lv_icmp_ge (tgt := 29) hx hb dX9_copy__5 (by decide) (fun c9 => absurd c9 (by decide)) (fun _ => ?_)
  refine lv_aload_n hx hb dX9_copy__8 rfl (lv_at hl 1 rfl) ?_
  refine lv_iload_n hx hb dX9_copy__9 rfl (lv_at hl 0 rfl) ?_
  refine y_aq (D := (dC, dI)) (cl := vwCl) (tys := yt ca) (t0 := 1) (j := 6) hx hb hK hH (i := 1) yk_1 (by decide) (by decide) rfl (show vp_in 4 8 from zx (n := 4) rfl (by decide) (by decide)) (by decide) dX9_copy__10 ?_
  refine lv_iconst (v := 0) hx hb dX9_copy__11 (by decide) ?_
  refine lv_aload_n hx hb dX9_copy__12 rfl (lv_at hl 2 rfl) ?_
  refine lv_iload_n hx hb dX9_copy__13 rfl (lv_at hl 0 rfl) ?_
  refine y_aq (D := (dC, dI)) (cl := vwCl) (tys := yt ca) (t0 := 1) (j := 6) hx hb hK hG (i := 1) yk_1 (by decide) (by decide) rfl (show vp_in 4 8 from zx (n := 4) rfl (by decide) (by decide)) (by decide) dX9_copy__14 ?_
  refine lv_iconst (v := 0) hx hb dX9_copy__15 (by decide) ?_
  refine lv_aload_n hx hb dX9_copy__16 rfl (lv_at hl 1 rfl) ?_
  refine lv_iload_n hx hb dX9_copy__17 rfl (lv_at hl 0 rfl) ?_
  refine y_aq (D := (dC, dI)) (cl := vwCl) (tys := yt ca) (t0 := 1) (j := 6) hx hb hK hH (i := 1) yk_1 (by decide) (by decide) rfl (show vp_in 4 8 from zx (n := 4) rfl (by decide) (by decide)) (by decide) dX9_copy__18 ?_
  refine y_len (D := (dC, dI)) (cl := vwCl) (tys := yt ca) (t0 := 0) (v := 6) hx hb hK hH (i := 6) yk_6 (by decide) (by decide) rfl (by decide) dX9_copy__19 ?_
  refine y_cp (t0 := 0) (n := 6) (i := 6) (j := 6) hx hb (hml.trans hl.1.symm) hown (hts (.methodLink RX9 72 arraycopyName) (by decide +kernel)) (hts (.native arraycopyName) (by decide +kernel)) (hts (.static arraycopyName) (by decide +kernel)) (hts (.initialized "java/lang/System") (by decide +kernel)) hK hG hH hI2 hS (fun _ h => h) yk_6 yk_6 rfl rfl (by decide) (by decide) (by decide) (Nat.le_of_ble_eq_true rfl) (Nat.le_of_ble_eq_true rfl) dX9_copy__20 (fun H locs hG oq hS => ?_)
  have hH := hH.kept (fun i hi => oq _ (hX i 6 hi (by rw [yk_6]; decide)))
  refine lv_iinc (v := 5) (lv' := [(2, .int 5), (0, .ref (ad 1)), (1, .ref (ad2 1))]) hx hb dX9_copy__23 hl (k := 0) rfl (by decide) (by decide) rfl (fun ls hl => ?_)
  refine lv_goto (tgt := 2) hx hb dX9_copy__26 (by decide) ?_
  refine lv_iload_n hx hb dX9_copy__2 rfl (lv_at hl 0 rfl) ?_
  refine lv_aload_n hx hb dX9_copy__3 rfl (lv_at hl 1 rfl) ?_
  refine y_len (D := (dC, dI)) (cl := vwCl) (tys := yt ca) (t0 := 1) (v := 8) hx hb hK hH (i := 1) yk_1 (by decide) (by decide) rfl (by decide) dX9_copy__4 ?_
  refine lv_icmp_ge (tgt := 29) hx hb dX9_copy__5 (by decide) (fun c9 => absurd c9 (by decide)) (fun _ => ?_)
  refine lv_aload_n hx hb dX9_copy__8 rfl (lv_at hl 1 rfl) ?_
  refine lv_iload_n hx hb dX9_copy__9 rfl (lv_at hl 0 rfl) ?_
  refine y_aq (D := (dC, dI)) (cl := vwCl) (tys := yt ca) (t0 := 1) (j := 7) hx hb hK hH (i := 1) yk_1 (by decide) (by decide) rfl (show vp_in 5 8 from zx (n := 5) rfl (by decide) (by decide)) (by decide) dX9_copy__10 ?_
  refine lv_iconst (v := 0) hx hb dX9_copy__11 (by decide) ?_
  refine lv_aload_n hx hb dX9_copy__12 rfl (lv_at hl 2 rfl) ?_
  refine lv_iload_n hx hb dX9_copy__13 rfl (lv_at hl 0 rfl) ?_
  refine y_aq (D := (dC, dI)) (cl := vwCl) (tys := yt ca) (t0 := 1) (j := 7) hx hb hK hG (i := 1) yk_1 (by decide) (by decide) rfl (show vp_in 5 8 from zx (n := 5) rfl (by decide) (by decide)) (by decide) dX9_copy__14 ?_
  refine lv_iconst (v := 0) hx hb dX9_copy__15 (by decide) ?_
  refine lv_aload_n hx hb dX9_copy__16 rfl (lv_at hl 1 rfl) ?_
  refine lv_iload_n hx hb dX9_copy__17 rfl (lv_at hl 0 rfl) ?_
  refine y_aq (D := (dC, dI)) (cl := vwCl) (tys := yt ca) (t0 := 1) (j := 7) hx hb hK hH (i := 1) yk_1 (by decide) (by decide) rfl (show vp_in 5 8 from zx (n := 5) rfl (by decide) (by decide)) (by decide) dX9_copy__18 ?_
  refine y_len (D := (dC, dI)) (cl := vwCl) (tys := yt ca) (t0 := 0) (v := 6) hx hb hK hH (i := 7) yk_7 (by decide) (by decide) rfl (by decide) dX9_copy__19 ?_
  refine y_cp (t0 := 0) (n := 6) (i := 7) (j := 7) hx hb (hml.trans hl.1.symm) hown (hts (.methodLink RX9 72 arraycopyName) (by decide +kernel)) (hts (.native arraycopyName) (by decide +kernel)) (hts (.static arraycopyName) (by decide +kernel)) (hts (.initialized "java/lang/System") (by decide +kernel)) hK hG hH hI2 hS (fun _ h => h) yk_7 yk_7 rfl rfl (by decide) (by decide) (by decide) (Nat.le_of_ble_eq_true rfl) (Nat.le_of_ble_eq_true rfl) dX9_copy__20 (fun H locs hG oq hS => ?_)
  have hH := hH.kept (fun i hi => oq _ (hX i 7 hi (by rw [yk_7]; decide)))
  refine lv_iinc (v := 6) (lv' := [(2, .int 6), (0, .ref (ad 1)), (1, .ref (ad2 1))]) hx hb dX9_copy__23 hl (k := 0) rfl (by decide) (by decide) rfl (fun ls hl => ?_)
  refine lv_goto (tgt := 2) hx hb dX9_copy__26 (by decide) ?_
  refine lv_iload_n hx hb dX9_copy__2 rfl (lv_at hl 0 rfl) ?_
  refine lv_aload_n hx hb dX9_copy__3 rfl (lv_at hl 1 rfl) ?_
  refine y_len (D := (dC, dI)) (cl := vwCl) (tys := yt ca) (t0 := 1) (v := 8) hx hb hK hH (i := 1) yk_1 (by decide) (by decide) rfl (by decide) dX9_copy__4 ?_
  refine lv_icmp_ge (tgt := 29) hx hb dX9_copy__5 (by decide) (fun c9 => absurd c9 (by decide)) (fun _ => ?_)
  refine lv_aload_n hx hb dX9_copy__8 rfl (lv_at hl 1 rfl) ?_
  refine lv_iload_n hx hb dX9_copy__9 rfl (lv_at hl 0 rfl) ?_
  refine y_aq (D := (dC, dI)) (cl := vwCl) (tys := yt ca) (t0 := 1) (j := 8) hx hb hK hH (i := 1) yk_1 (by decide) (by decide) rfl (show vp_in 6 8 from zx (n := 6) rfl (by decide) (by decide)) (by decide) dX9_copy__10 ?_
  refine lv_iconst (v := 0) hx hb dX9_copy__11 (by decide) ?_
  refine lv_aload_n hx hb dX9_copy__12 rfl (lv_at hl 2 rfl) ?_
  refine lv_iload_n hx hb dX9_copy__13 rfl (lv_at hl 0 rfl) ?_
  refine y_aq (D := (dC, dI)) (cl := vwCl) (tys := yt ca) (t0 := 1) (j := 8) hx hb hK hG (i := 1) yk_1 (by decide) (by decide) rfl (show vp_in 6 8 from zx (n := 6) rfl (by decide) (by decide)) (by decide) dX9_copy__14 ?_
  refine lv_iconst (v := 0) hx hb dX9_copy__15 (by decide) ?_
  refine lv_aload_n hx hb dX9_copy__16 rfl (lv_at hl 1 rfl) ?_
  refine lv_iload_n hx hb dX9_copy__17 rfl (lv_at hl 0 rfl) ?_
  refine y_aq (D := (dC, dI)) (cl := vwCl) (tys := yt ca) (t0 := 1) (j := 8) hx hb hK hH (i := 1) yk_1 (by decide) (by decide) rfl (show vp_in 6 8 from zx (n := 6) rfl (by decide) (by decide)) (by decide) dX9_copy__18 ?_
  refine y_len (D := (dC, dI)) (cl := vwCl) (tys := yt ca) (t0 := 0) (v := 6) hx hb hK hH (i := 8) yk_8 (by decide) (by decide) rfl (by decide) dX9_copy__19 ?_
  refine y_cp (t0 := 0) (n := 6) (i := 8) (j := 8) hx hb (hml.trans hl.1.symm) hown (hts (.methodLink RX9 72 arraycopyName) (by decide +kernel)) (hts (.native arraycopyName) (by decide +kernel)) (hts (.static arraycopyName) (by decide +kernel)) (hts (.initialized "java/lang/System") (by decide +kernel)) hK hG hH hI2 hS (fun _ h => h) yk_8 yk_8 rfl rfl (by decide) (by decide) (by decide) (Nat.le_of_ble_eq_true rfl) (Nat.le_of_ble_eq_true rfl) dX9_copy__20 (fun H locs hG oq hS => ?_)
  have hH := hH.kept (fun i hi => oq _ (hX i 8 hi (by rw [yk_8]; decide)))
  refine lv_iinc (v := 7) (lv' := [(2, .int 7), (0, .ref (ad 1)), (1, .ref (ad2 1))]) hx hb dX9_copy__23 hl (k := 0) rfl (by decide) (by decide) rfl (fun ls hl => ?_)
  refine lv_goto (tgt := 2) hx hb dX9_copy__26 (by decide) ?_
  refine lv_iload_n hx hb dX9_copy__2 rfl (lv_at hl 0 rfl) ?_
  refine lv_aload_n hx hb dX9_copy__3 rfl (lv_at hl 1 rfl) ?_
  refine y_len (D := (dC, dI)) (cl := vwCl) (tys := yt ca) (t0 := 1) (v := 8) hx hb hK hH (i := 1) yk_1 (by decide) (by decide) rfl (by decide) dX9_copy__4 ?_
  refine lv_icmp_ge (tgt := 29) hx hb dX9_copy__5 (by decide) (fun c9 => absurd c9 (by decide)) (fun _ => ?_)
  refine lv_aload_n hx hb dX9_copy__8 rfl (lv_at hl 1 rfl) ?_
  refine lv_iload_n hx hb dX9_copy__9 rfl (lv_at hl 0 rfl) ?_
  refine y_aq (D := (dC, dI)) (cl := vwCl) (tys := yt ca) (t0 := 1) (j := 9) hx hb hK hH (i := 1) yk_1 (by decide) (by decide) rfl (show vp_in 7 8 from zx (n := 7) rfl (by decide) (by decide)) (by decide) dX9_copy__10 ?_
  refine lv_iconst (v := 0) hx hb dX9_copy__11 (by decide) ?_
  refine lv_aload_n hx hb dX9_copy__12 rfl (lv_at hl 2 rfl) ?_
  refine lv_iload_n hx hb dX9_copy__13 rfl (lv_at hl 0 rfl) ?_
  refine y_aq (D := (dC, dI)) (cl := vwCl) (tys := yt ca) (t0 := 1) (j := 9) hx hb hK hG (i := 1) yk_1 (by decide) (by decide) rfl (show vp_in 7 8 from zx (n := 7) rfl (by decide) (by decide)) (by decide) dX9_copy__14 ?_
  refine lv_iconst (v := 0) hx hb dX9_copy__15 (by decide) ?_
  refine lv_aload_n hx hb dX9_copy__16 rfl (lv_at hl 1 rfl) ?_
  refine lv_iload_n hx hb dX9_copy__17 rfl (lv_at hl 0 rfl) ?_
  refine y_aq (D := (dC, dI)) (cl := vwCl) (tys := yt ca) (t0 := 1) (j := 9) hx hb hK hH (i := 1) yk_1 (by decide) (by decide) rfl (show vp_in 7 8 from zx (n := 7) rfl (by decide) (by decide)) (by decide) dX9_copy__18 ?_
  refine y_len (D := (dC, dI)) (cl := vwCl) (tys := yt ca) (t0 := 0) (v := 6) hx hb hK hH (i := 9) yk_9 (by decide) (by decide) rfl (by decide) dX9_copy__19 ?_
  refine y_cp (t0 := 0) (n := 6) (i := 9) (j := 9) hx hb (hml.trans hl.1.symm) hown (hts (.methodLink RX9 72 arraycopyName) (by decide +kernel)) (hts (.native arraycopyName) (by decide +kernel)) (hts (.static arraycopyName) (by decide +kernel)) (hts (.initialized "java/lang/System") (by decide +kernel)) hK hG hH hI2 hS (fun _ h => h) yk_9 yk_9 rfl rfl (by decide) (by decide) (by decide) (Nat.le_of_ble_eq_true rfl) (Nat.le_of_ble_eq_true rfl) dX9_copy__20 (fun H locs hG oq hS => ?_)
  have hH := hH.kept (fun i hi => oq _ (hX i 9 hi (by rw [yk_9]; decide)))
  refine lv_iinc (v := 8) (lv' := [(2, .int 8), (0, .ref (ad 1)), (1, .ref (ad2 1))]) hx hb dX9_copy__23 hl (k := 0) rfl (by decide) (by decide) rfl (fun ls hl => ?_)
  refine lv_goto (tgt := 2) hx hb dX9_copy__26 (by decide) ?_
  refine lv_iload_n hx hb dX9_copy__2 rfl (lv_at hl 0 rfl) ?_
  refine lv_aload_n hx hb dX9_copy__3 rfl (lv_at hl 1 rfl) ?_
  refine y_len (D := (dC, dI)) (cl := vwCl) (tys := yt ca) (t0 := 1) (v := 8) hx hb hK hH (i := 1) yk_1 (by decide) (by decide) rfl (by decide) dX9_copy__4 ?_
  refine lv_icmp_ge (tgt := 29) hx hb dX9_copy__5 (by decide) (fun _ => ?_) (fun c9 => absurd c9 (by decide))
  refine W.widen (k := 0) (n := 0) (Nat.le_of_ble_eq_true rfl) (Nat.le_of_ble_eq_true rfl) ?_
  exact W.vret hx hb hr (fun t ht hW => ⟨⟨(), rfl, trivial, z_to (B := (fun H => yW dC dI ca ad (yM 0) H ∧ yW dC dI ca ad2 (yM 0) H)) ht ⟨hH, hG⟩⟩, hS.F ht⟩) hS.2.2 dX9_copy__29
set_option maxHeartbeats 4000000 in
set_option maxRecDepth 100000 in
theorem m_X9_copy_f (l : Launch) (dC : Nat → ClassId) (dI : Nat → Nat → Nat) (ca : Nat → ClassId) (ad : Nat → Nat) (hI : z_I yd ad) (ad2 : Nat → Nat) (hI2 : z_I yd ad2) (hX : ∀ i j, yd.1 i < 200 → yd.1 j < 200 → ad i ≠ ad2 j) : Met l yX9_copy_ wsX9_copy_ ({ frames := 1, cells := 0, slots := 0, locals := 26 }) (z_Py (dC, dI) vwCl (yt ca) zw_nest [.ref (ad 10), .ref (ad2 10)] (fun H => yW dC dI ca ad (yM 0) H ∧ yW dC dI ca ad2 (yM 0) H)) (z_Qv (fun H => yW dC dI ca ad (yM 0) H ∧ yW dC dI ca ad2 (yM 0) H) (z_A yd ad2)) 0 0 (z_A yd ad2) := by
  refine Met.ofW (cc := cX9_copy_) (maxL := 3) (ret := none) (by decide) rfl ?_
  intro p e s m args below meth c s₁ B9 hml hv
  obtain ⟨rfl, ⟨hH, hG⟩, hK, hN, hXo⟩ := hv
  have hx := B9.exec
  have hb := B9.bytes
  have hr := B9.returns
  have hts := atoms_spec (ws := wsX9_copy_) B9.pre
  have hown : s.vm.findClass RX9 = some m.cls := findClass_of_methodNamed B9.named
  have hlocks := B9.notSynchronized
  have hS : va_S (z_A yd ad2) s.heap s.heap [] := va_S.rf
  have hl := lv_entry ([.ref (ad 10), .ref (ad2 10)]) (n := 3) (Nat.le_of_ble_eq_true rfl)
  rw [lg_entry_eq]
  generalize (lg_sl ([.ref (ad 10), .ref (ad2 10)]) ++ List.replicate (3 - (lg_sl ([.ref (ad 10), .ref (ad2 10)])).length) Slot.unset).toArray = ls at hl ⊢
  have hl : lv_has ls 3 [(0, .ref (ad 10)), (1, .ref (ad2 10))] := hl
  refine lv_iconst (v := 0) hx hb dX9_copy__0 (by decide) ?_
  refine lv_istore_n (lv' := [(2, .int 0), (0, .ref (ad 10)), (1, .ref (ad2 10))]) hx hb dX9_copy__1 rfl hl (by decide) rfl (fun ls hl => ?_)
  refine lv_iload_n hx hb dX9_copy__2 rfl (lv_at hl 0 rfl) ?_
  refine lv_aload_n hx hb dX9_copy__3 rfl (lv_at hl 1 rfl) ?_
  refine y_len (D := (dC, dI)) (cl := vwCl) (tys := yt ca) (t0 := 1) (v := 12) hx hb hK hH (i := 10) yk_10 (by decide) (by decide) rfl (by decide) dX9_copy__4 ?_
  refine lv_icmp_ge (tgt := 29) hx hb dX9_copy__5 (by decide) (fun c9 => absurd c9 (by decide)) (fun _ => ?_)
  refine lv_aload_n hx hb dX9_copy__8 rfl (lv_at hl 1 rfl) ?_
  refine lv_iload_n hx hb dX9_copy__9 rfl (lv_at hl 0 rfl) ?_
  refine y_aq (D := (dC, dI)) (cl := vwCl) (tys := yt ca) (t0 := 1) (j := 11) hx hb hK hH (i := 10) yk_10 (by decide) (by decide) rfl (show vp_in 0 12 from zx (n := 0) rfl (by decide) (by decide)) (by decide) dX9_copy__10 ?_
  refine lv_iconst (v := 0) hx hb dX9_copy__11 (by decide) ?_
  refine lv_aload_n hx hb dX9_copy__12 rfl (lv_at hl 2 rfl) ?_
  refine lv_iload_n hx hb dX9_copy__13 rfl (lv_at hl 0 rfl) ?_
  refine y_aq (D := (dC, dI)) (cl := vwCl) (tys := yt ca) (t0 := 1) (j := 11) hx hb hK hG (i := 10) yk_10 (by decide) (by decide) rfl (show vp_in 0 12 from zx (n := 0) rfl (by decide) (by decide)) (by decide) dX9_copy__14 ?_
  refine lv_iconst (v := 0) hx hb dX9_copy__15 (by decide) ?_
  refine lv_aload_n hx hb dX9_copy__16 rfl (lv_at hl 1 rfl) ?_
  refine lv_iload_n hx hb dX9_copy__17 rfl (lv_at hl 0 rfl) ?_
  refine y_aq (D := (dC, dI)) (cl := vwCl) (tys := yt ca) (t0 := 1) (j := 11) hx hb hK hH (i := 10) yk_10 (by decide) (by decide) rfl (show vp_in 0 12 from zx (n := 0) rfl (by decide) (by decide)) (by decide) dX9_copy__18 ?_
  refine y_len (D := (dC, dI)) (cl := vwCl) (tys := yt ca) (t0 := 0) (v := 4) hx hb hK hH (i := 11) yk_11 (by decide) (by decide) rfl (by decide) dX9_copy__19 ?_
  refine y_cp (t0 := 0) (n := 4) (i := 11) (j := 11) hx hb (hml.trans hl.1.symm) hown (hts (.methodLink RX9 72 arraycopyName) (by decide +kernel)) (hts (.native arraycopyName) (by decide +kernel)) (hts (.static arraycopyName) (by decide +kernel)) (hts (.initialized "java/lang/System") (by decide +kernel)) hK hG hH hI2 hS (fun _ h => h) yk_11 yk_11 rfl rfl (by decide) (by decide) (by decide) (Nat.le_of_ble_eq_true rfl) (Nat.le_of_ble_eq_true rfl) dX9_copy__20 (fun H locs hG oq hS => ?_)
  have hH := hH.kept (fun i hi => oq _ (hX i 11 hi (by rw [yk_11]; decide)))
  refine lv_iinc (v := 1) (lv' := [(2, .int 1), (0, .ref (ad 10)), (1, .ref (ad2 10))]) hx hb dX9_copy__23 hl (k := 0) rfl (by decide) (by decide) rfl (fun ls hl => ?_)
  refine lv_goto (tgt := 2) hx hb dX9_copy__26 (by decide) ?_
  refine lv_iload_n hx hb dX9_copy__2 rfl (lv_at hl 0 rfl) ?_
  refine lv_aload_n hx hb dX9_copy__3 rfl (lv_at hl 1 rfl) ?_
  refine y_len (D := (dC, dI)) (cl := vwCl) (tys := yt ca) (t0 := 1) (v := 12) hx hb hK hH (i := 10) yk_10 (by decide) (by decide) rfl (by decide) dX9_copy__4 ?_
  refine lv_icmp_ge (tgt := 29) hx hb dX9_copy__5 (by decide) (fun c9 => absurd c9 (by decide)) (fun _ => ?_)
  refine lv_aload_n hx hb dX9_copy__8 rfl (lv_at hl 1 rfl) ?_
  refine lv_iload_n hx hb dX9_copy__9 rfl (lv_at hl 0 rfl) ?_
  refine y_aq (D := (dC, dI)) (cl := vwCl) (tys := yt ca) (t0 := 1) (j := 12) hx hb hK hH (i := 10) yk_10 (by decide) (by decide) rfl (show vp_in 1 12 from zx (n := 1) rfl (by decide) (by decide)) (by decide) dX9_copy__10 ?_
  refine lv_iconst (v := 0) hx hb dX9_copy__11 (by decide) ?_
  refine lv_aload_n hx hb dX9_copy__12 rfl (lv_at hl 2 rfl) ?_
  refine lv_iload_n hx hb dX9_copy__13 rfl (lv_at hl 0 rfl) ?_
  refine y_aq (D := (dC, dI)) (cl := vwCl) (tys := yt ca) (t0 := 1) (j := 12) hx hb hK hG (i := 10) yk_10 (by decide) (by decide) rfl (show vp_in 1 12 from zx (n := 1) rfl (by decide) (by decide)) (by decide) dX9_copy__14 ?_
  refine lv_iconst (v := 0) hx hb dX9_copy__15 (by decide) ?_
  refine lv_aload_n hx hb dX9_copy__16 rfl (lv_at hl 1 rfl) ?_
  refine lv_iload_n hx hb dX9_copy__17 rfl (lv_at hl 0 rfl) ?_
  refine y_aq (D := (dC, dI)) (cl := vwCl) (tys := yt ca) (t0 := 1) (j := 12) hx hb hK hH (i := 10) yk_10 (by decide) (by decide) rfl (show vp_in 1 12 from zx (n := 1) rfl (by decide) (by decide)) (by decide) dX9_copy__18 ?_
  refine y_len (D := (dC, dI)) (cl := vwCl) (tys := yt ca) (t0 := 0) (v := 4) hx hb hK hH (i := 12) yk_12 (by decide) (by decide) rfl (by decide) dX9_copy__19 ?_
  refine y_cp (t0 := 0) (n := 4) (i := 12) (j := 12) hx hb (hml.trans hl.1.symm) hown (hts (.methodLink RX9 72 arraycopyName) (by decide +kernel)) (hts (.native arraycopyName) (by decide +kernel)) (hts (.static arraycopyName) (by decide +kernel)) (hts (.initialized "java/lang/System") (by decide +kernel)) hK hG hH hI2 hS (fun _ h => h) yk_12 yk_12 rfl rfl (by decide) (by decide) (by decide) (Nat.le_of_ble_eq_true rfl) (Nat.le_of_ble_eq_true rfl) dX9_copy__20 (fun H locs hG oq hS => ?_)
  have hH := hH.kept (fun i hi => oq _ (hX i 12 hi (by rw [yk_12]; decide)))
  refine lv_iinc (v := 2) (lv' := [(2, .int 2), (0, .ref (ad 10)), (1, .ref (ad2 10))]) hx hb dX9_copy__23 hl (k := 0) rfl (by decide) (by decide) rfl (fun ls hl => ?_)
  refine lv_goto (tgt := 2) hx hb dX9_copy__26 (by decide) ?_
  refine lv_iload_n hx hb dX9_copy__2 rfl (lv_at hl 0 rfl) ?_
  refine lv_aload_n hx hb dX9_copy__3 rfl (lv_at hl 1 rfl) ?_
  refine y_len (D := (dC, dI)) (cl := vwCl) (tys := yt ca) (t0 := 1) (v := 12) hx hb hK hH (i := 10) yk_10 (by decide) (by decide) rfl (by decide) dX9_copy__4 ?_
  refine lv_icmp_ge (tgt := 29) hx hb dX9_copy__5 (by decide) (fun c9 => absurd c9 (by decide)) (fun _ => ?_)
  refine lv_aload_n hx hb dX9_copy__8 rfl (lv_at hl 1 rfl) ?_
  refine lv_iload_n hx hb dX9_copy__9 rfl (lv_at hl 0 rfl) ?_
  refine y_aq (D := (dC, dI)) (cl := vwCl) (tys := yt ca) (t0 := 1) (j := 13) hx hb hK hH (i := 10) yk_10 (by decide) (by decide) rfl (show vp_in 2 12 from zx (n := 2) rfl (by decide) (by decide)) (by decide) dX9_copy__10 ?_
  refine lv_iconst (v := 0) hx hb dX9_copy__11 (by decide) ?_
  refine lv_aload_n hx hb dX9_copy__12 rfl (lv_at hl 2 rfl) ?_
  refine lv_iload_n hx hb dX9_copy__13 rfl (lv_at hl 0 rfl) ?_
  refine y_aq (D := (dC, dI)) (cl := vwCl) (tys := yt ca) (t0 := 1) (j := 13) hx hb hK hG (i := 10) yk_10 (by decide) (by decide) rfl (show vp_in 2 12 from zx (n := 2) rfl (by decide) (by decide)) (by decide) dX9_copy__14 ?_
  refine lv_iconst (v := 0) hx hb dX9_copy__15 (by decide) ?_
  refine lv_aload_n hx hb dX9_copy__16 rfl (lv_at hl 1 rfl) ?_
  refine lv_iload_n hx hb dX9_copy__17 rfl (lv_at hl 0 rfl) ?_
  refine y_aq (D := (dC, dI)) (cl := vwCl) (tys := yt ca) (t0 := 1) (j := 13) hx hb hK hH (i := 10) yk_10 (by decide) (by decide) rfl (show vp_in 2 12 from zx (n := 2) rfl (by decide) (by decide)) (by decide) dX9_copy__18 ?_
  refine y_len (D := (dC, dI)) (cl := vwCl) (tys := yt ca) (t0 := 0) (v := 4) hx hb hK hH (i := 13) yk_13 (by decide) (by decide) rfl (by decide) dX9_copy__19 ?_
  refine y_cp (t0 := 0) (n := 4) (i := 13) (j := 13) hx hb (hml.trans hl.1.symm) hown (hts (.methodLink RX9 72 arraycopyName) (by decide +kernel)) (hts (.native arraycopyName) (by decide +kernel)) (hts (.static arraycopyName) (by decide +kernel)) (hts (.initialized "java/lang/System") (by decide +kernel)) hK hG hH hI2 hS (fun _ h => h) yk_13 yk_13 rfl rfl (by decide) (by decide) (by decide) (Nat.le_of_ble_eq_true rfl) (Nat.le_of_ble_eq_true rfl) dX9_copy__20 (fun H locs hG oq hS => ?_)
  have hH := hH.kept (fun i hi => oq _ (hX i 13 hi (by rw [yk_13]; decide)))
  refine lv_iinc (v := 3) (lv' := [(2, .int 3), (0, .ref (ad 10)), (1, .ref (ad2 10))]) hx hb dX9_copy__23 hl (k := 0) rfl (by decide) (by decide) rfl (fun ls hl => ?_)
  refine lv_goto (tgt := 2) hx hb dX9_copy__26 (by decide) ?_
  refine lv_iload_n hx hb dX9_copy__2 rfl (lv_at hl 0 rfl) ?_
  refine lv_aload_n hx hb dX9_copy__3 rfl (lv_at hl 1 rfl) ?_
  refine y_len (D := (dC, dI)) (cl := vwCl) (tys := yt ca) (t0 := 1) (v := 12) hx hb hK hH (i := 10) yk_10 (by decide) (by decide) rfl (by decide) dX9_copy__4 ?_
  refine lv_icmp_ge (tgt := 29) hx hb dX9_copy__5 (by decide) (fun c9 => absurd c9 (by decide)) (fun _ => ?_)
  refine lv_aload_n hx hb dX9_copy__8 rfl (lv_at hl 1 rfl) ?_
  refine lv_iload_n hx hb dX9_copy__9 rfl (lv_at hl 0 rfl) ?_
  refine y_aq (D := (dC, dI)) (cl := vwCl) (tys := yt ca) (t0 := 1) (j := 14) hx hb hK hH (i := 10) yk_10 (by decide) (by decide) rfl (show vp_in 3 12 from zx (n := 3) rfl (by decide) (by decide)) (by decide) dX9_copy__10 ?_
  refine lv_iconst (v := 0) hx hb dX9_copy__11 (by decide) ?_
  refine lv_aload_n hx hb dX9_copy__12 rfl (lv_at hl 2 rfl) ?_
  refine lv_iload_n hx hb dX9_copy__13 rfl (lv_at hl 0 rfl) ?_
  refine y_aq (D := (dC, dI)) (cl := vwCl) (tys := yt ca) (t0 := 1) (j := 14) hx hb hK hG (i := 10) yk_10 (by decide) (by decide) rfl (show vp_in 3 12 from zx (n := 3) rfl (by decide) (by decide)) (by decide) dX9_copy__14 ?_
  refine lv_iconst (v := 0) hx hb dX9_copy__15 (by decide) ?_
  refine lv_aload_n hx hb dX9_copy__16 rfl (lv_at hl 1 rfl) ?_
  refine lv_iload_n hx hb dX9_copy__17 rfl (lv_at hl 0 rfl) ?_
  refine y_aq (D := (dC, dI)) (cl := vwCl) (tys := yt ca) (t0 := 1) (j := 14) hx hb hK hH (i := 10) yk_10 (by decide) (by decide) rfl (show vp_in 3 12 from zx (n := 3) rfl (by decide) (by decide)) (by decide) dX9_copy__18 ?_
  refine y_len (D := (dC, dI)) (cl := vwCl) (tys := yt ca) (t0 := 0) (v := 4) hx hb hK hH (i := 14) yk_14 (by decide) (by decide) rfl (by decide) dX9_copy__19 ?_
  refine y_cp (t0 := 0) (n := 4) (i := 14) (j := 14) hx hb (hml.trans hl.1.symm) hown (hts (.methodLink RX9 72 arraycopyName) (by decide +kernel)) (hts (.native arraycopyName) (by decide +kernel)) (hts (.static arraycopyName) (by decide +kernel)) (hts (.initialized "java/lang/System") (by decide +kernel)) hK hG hH hI2 hS (fun _ h => h) yk_14 yk_14 rfl rfl (by decide) (by decide) (by decide) (Nat.le_of_ble_eq_true rfl) (Nat.le_of_ble_eq_true rfl) dX9_copy__20 (fun H locs hG oq hS => ?_)
  have hH := hH.kept (fun i hi => oq _ (hX i 14 hi (by rw [yk_14]; decide)))
  refine lv_iinc (v := 4) (lv' := [(2, .int 4), (0, .ref (ad 10)), (1, .ref (ad2 10))]) hx hb dX9_copy__23 hl (k := 0) rfl (by decide) (by decide) rfl (fun ls hl => ?_)
  refine lv_goto (tgt := 2) hx hb dX9_copy__26 (by decide) ?_
  refine lv_iload_n hx hb dX9_copy__2 rfl (lv_at hl 0 rfl) ?_
  refine lv_aload_n hx hb dX9_copy__3 rfl (lv_at hl 1 rfl) ?_
  refine y_len (D := (dC, dI)) (cl := vwCl) (tys := yt ca) (t0 := 1) (v := 12) hx hb hK hH (i := 10) yk_10 (by decide) (by decide) rfl (by decide) dX9_copy__4 ?_
  refine lv_icmp_ge (tgt := 29) hx hb dX9_copy__5 (by decide) (fun c9 => absurd c9 (by decide)) (fun _ => ?_)
  refine lv_aload_n hx hb dX9_copy__8 rfl (lv_at hl 1 rfl) ?_
  refine lv_iload_n hx hb dX9_copy__9 rfl (lv_at hl 0 rfl) ?_
  refine y_aq (D := (dC, dI)) (cl := vwCl) (tys := yt ca) (t0 := 1) (j := 15) hx hb hK hH (i := 10) yk_10 (by decide) (by decide) rfl (show vp_in 4 12 from zx (n := 4) rfl (by decide) (by decide)) (by decide) dX9_copy__10 ?_
  refine lv_iconst (v := 0) hx hb dX9_copy__11 (by decide) ?_
  refine lv_aload_n hx hb dX9_copy__12 rfl (lv_at hl 2 rfl) ?_
  refine lv_iload_n hx hb dX9_copy__13 rfl (lv_at hl 0 rfl) ?_
  refine y_aq (D := (dC, dI)) (cl := vwCl) (tys := yt ca) (t0 := 1) (j := 15) hx hb hK hG (i := 10) yk_10 (by decide) (by decide) rfl (show vp_in 4 12 from zx (n := 4) rfl (by decide) (by decide)) (by decide) dX9_copy__14 ?_
  refine lv_iconst (v := 0) hx hb dX9_copy__15 (by decide) ?_
  refine lv_aload_n hx hb dX9_copy__16 rfl (lv_at hl 1 rfl) ?_
  refine lv_iload_n hx hb dX9_copy__17 rfl (lv_at hl 0 rfl) ?_
  refine y_aq (D := (dC, dI)) (cl := vwCl) (tys := yt ca) (t0 := 1) (j := 15) hx hb hK hH (i := 10) yk_10 (by decide) (by decide) rfl (show vp_in 4 12 from zx (n := 4) rfl (by decide) (by decide)) (by decide) dX9_copy__18 ?_
  refine y_len (D := (dC, dI)) (cl := vwCl) (tys := yt ca) (t0 := 0) (v := 4) hx hb hK hH (i := 15) yk_15 (by decide) (by decide) rfl (by decide) dX9_copy__19 ?_
  refine y_cp (t0 := 0) (n := 4) (i := 15) (j := 15) hx hb (hml.trans hl.1.symm) hown (hts (.methodLink RX9 72 arraycopyName) (by decide +kernel)) (hts (.native arraycopyName) (by decide +kernel)) (hts (.static arraycopyName) (by decide +kernel)) (hts (.initialized "java/lang/System") (by decide +kernel)) hK hG hH hI2 hS (fun _ h => h) yk_15 yk_15 rfl rfl (by decide) (by decide) (by decide) (Nat.le_of_ble_eq_true rfl) (Nat.le_of_ble_eq_true rfl) dX9_copy__20 (fun H locs hG oq hS => ?_)
  have hH := hH.kept (fun i hi => oq _ (hX i 15 hi (by rw [yk_15]; decide)))
  refine lv_iinc (v := 5) (lv' := [(2, .int 5), (0, .ref (ad 10)), (1, .ref (ad2 10))]) hx hb dX9_copy__23 hl (k := 0) rfl (by decide) (by decide) rfl (fun ls hl => ?_)
  refine lv_goto (tgt := 2) hx hb dX9_copy__26 (by decide) ?_
  refine lv_iload_n hx hb dX9_copy__2 rfl (lv_at hl 0 rfl) ?_
  refine lv_aload_n hx hb dX9_copy__3 rfl (lv_at hl 1 rfl) ?_
  refine y_len (D := (dC, dI)) (cl := vwCl) (tys := yt ca) (t0 := 1) (v := 12) hx hb hK hH (i := 10) yk_10 (by decide) (by decide) rfl (by decide) dX9_copy__4 ?_
  refine lv_icmp_ge (tgt := 29) hx hb dX9_copy__5 (by decide) (fun c9 => absurd c9 (by decide)) (fun _ => ?_)
  refine lv_aload_n hx hb dX9_copy__8 rfl (lv_at hl 1 rfl) ?_
  refine lv_iload_n hx hb dX9_copy__9 rfl (lv_at hl 0 rfl) ?_
  refine y_aq (D := (dC, dI)) (cl := vwCl) (tys := yt ca) (t0 := 1) (j := 16) hx hb hK hH (i := 10) yk_10 (by decide) (by decide) rfl (show vp_in 5 12 from zx (n := 5) rfl (by decide) (by decide)) (by decide) dX9_copy__10 ?_
  refine lv_iconst (v := 0) hx hb dX9_copy__11 (by decide) ?_
  refine lv_aload_n hx hb dX9_copy__12 rfl (lv_at hl 2 rfl) ?_
  refine lv_iload_n hx hb dX9_copy__13 rfl (lv_at hl 0 rfl) ?_
  refine y_aq (D := (dC, dI)) (cl := vwCl) (tys := yt ca) (t0 := 1) (j := 16) hx hb hK hG (i := 10) yk_10 (by decide) (by decide) rfl (show vp_in 5 12 from zx (n := 5) rfl (by decide) (by decide)) (by decide) dX9_copy__14 ?_
  refine lv_iconst (v := 0) hx hb dX9_copy__15 (by decide) ?_
  refine lv_aload_n hx hb dX9_copy__16 rfl (lv_at hl 1 rfl) ?_
  refine lv_iload_n hx hb dX9_copy__17 rfl (lv_at hl 0 rfl) ?_
  refine y_aq (D := (dC, dI)) (cl := vwCl) (tys := yt ca) (t0 := 1) (j := 16) hx hb hK hH (i := 10) yk_10 (by decide) (by decide) rfl (show vp_in 5 12 from zx (n := 5) rfl (by decide) (by decide)) (by decide) dX9_copy__18 ?_
  refine y_len (D := (dC, dI)) (cl := vwCl) (tys := yt ca) (t0 := 0) (v := 4) hx hb hK hH (i := 16) yk_16 (by decide) (by decide) rfl (by decide) dX9_copy__19 ?_
  refine y_cp (t0 := 0) (n := 4) (i := 16) (j := 16) hx hb (hml.trans hl.1.symm) hown (hts (.methodLink RX9 72 arraycopyName) (by decide +kernel)) (hts (.native arraycopyName) (by decide +kernel)) (hts (.static arraycopyName) (by decide +kernel)) (hts (.initialized "java/lang/System") (by decide +kernel)) hK hG hH hI2 hS (fun _ h => h) yk_16 yk_16 rfl rfl (by decide) (by decide) (by decide) (Nat.le_of_ble_eq_true rfl) (Nat.le_of_ble_eq_true rfl) dX9_copy__20 (fun H locs hG oq hS => ?_)
  have hH := hH.kept (fun i hi => oq _ (hX i 16 hi (by rw [yk_16]; decide)))
  refine lv_iinc (v := 6) (lv' := [(2, .int 6), (0, .ref (ad 10)), (1, .ref (ad2 10))]) hx hb dX9_copy__23 hl (k := 0) rfl (by decide) (by decide) rfl (fun ls hl => ?_)
  refine lv_goto (tgt := 2) hx hb dX9_copy__26 (by decide) ?_
  refine lv_iload_n hx hb dX9_copy__2 rfl (lv_at hl 0 rfl) ?_
  refine lv_aload_n hx hb dX9_copy__3 rfl (lv_at hl 1 rfl) ?_
  refine y_len (D := (dC, dI)) (cl := vwCl) (tys := yt ca) (t0 := 1) (v := 12) hx hb hK hH (i := 10) yk_10 (by decide) (by decide) rfl (by decide) dX9_copy__4 ?_
  refine lv_icmp_ge (tgt := 29) hx hb dX9_copy__5 (by decide) (fun c9 => absurd c9 (by decide)) (fun _ => ?_)
  refine lv_aload_n hx hb dX9_copy__8 rfl (lv_at hl 1 rfl) ?_
  refine lv_iload_n hx hb dX9_copy__9 rfl (lv_at hl 0 rfl) ?_
  refine y_aq (D := (dC, dI)) (cl := vwCl) (tys := yt ca) (t0 := 1) (j := 17) hx hb hK hH (i := 10) yk_10 (by decide) (by decide) rfl (show vp_in 6 12 from zx (n := 6) rfl (by decide) (by decide)) (by decide) dX9_copy__10 ?_
  refine lv_iconst (v := 0) hx hb dX9_copy__11 (by decide) ?_
  refine lv_aload_n hx hb dX9_copy__12 rfl (lv_at hl 2 rfl) ?_
  refine lv_iload_n hx hb dX9_copy__13 rfl (lv_at hl 0 rfl) ?_
  refine y_aq (D := (dC, dI)) (cl := vwCl) (tys := yt ca) (t0 := 1) (j := 17) hx hb hK hG (i := 10) yk_10 (by decide) (by decide) rfl (show vp_in 6 12 from zx (n := 6) rfl (by decide) (by decide)) (by decide) dX9_copy__14 ?_
  refine lv_iconst (v := 0) hx hb dX9_copy__15 (by decide) ?_
  refine lv_aload_n hx hb dX9_copy__16 rfl (lv_at hl 1 rfl) ?_
  refine lv_iload_n hx hb dX9_copy__17 rfl (lv_at hl 0 rfl) ?_
  refine y_aq (D := (dC, dI)) (cl := vwCl) (tys := yt ca) (t0 := 1) (j := 17) hx hb hK hH (i := 10) yk_10 (by decide) (by decide) rfl (show vp_in 6 12 from zx (n := 6) rfl (by decide) (by decide)) (by decide) dX9_copy__18 ?_
  refine y_len (D := (dC, dI)) (cl := vwCl) (tys := yt ca) (t0 := 0) (v := 4) hx hb hK hH (i := 17) yk_17 (by decide) (by decide) rfl (by decide) dX9_copy__19 ?_
  refine y_cp (t0 := 0) (n := 4) (i := 17) (j := 17) hx hb (hml.trans hl.1.symm) hown (hts (.methodLink RX9 72 arraycopyName) (by decide +kernel)) (hts (.native arraycopyName) (by decide +kernel)) (hts (.static arraycopyName) (by decide +kernel)) (hts (.initialized "java/lang/System") (by decide +kernel)) hK hG hH hI2 hS (fun _ h => h) yk_17 yk_17 rfl rfl (by decide) (by decide) (by decide) (Nat.le_of_ble_eq_true rfl) (Nat.le_of_ble_eq_true rfl) dX9_copy__20 (fun H locs hG oq hS => ?_)
  have hH := hH.kept (fun i hi => oq _ (hX i 17 hi (by rw [yk_17]; decide)))
  refine lv_iinc (v := 7) (lv' := [(2, .int 7), (0, .ref (ad 10)), (1, .ref (ad2 10))]) hx hb dX9_copy__23 hl (k := 0) rfl (by decide) (by decide) rfl (fun ls hl => ?_)
  refine lv_goto (tgt := 2) hx hb dX9_copy__26 (by decide) ?_
  refine lv_iload_n hx hb dX9_copy__2 rfl (lv_at hl 0 rfl) ?_
  refine lv_aload_n hx hb dX9_copy__3 rfl (lv_at hl 1 rfl) ?_
  refine y_len (D := (dC, dI)) (cl := vwCl) (tys := yt ca) (t0 := 1) (v := 12) hx hb hK hH (i := 10) yk_10 (by decide) (by decide) rfl (by decide) dX9_copy__4 ?_
  refine lv_icmp_ge (tgt := 29) hx hb dX9_copy__5 (by decide) (fun c9 => absurd c9 (by decide)) (fun _ => ?_)
  refine lv_aload_n hx hb dX9_copy__8 rfl (lv_at hl 1 rfl) ?_
  refine lv_iload_n hx hb dX9_copy__9 rfl (lv_at hl 0 rfl) ?_
  refine y_aq (D := (dC, dI)) (cl := vwCl) (tys := yt ca) (t0 := 1) (j := 18) hx hb hK hH (i := 10) yk_10 (by decide) (by decide) rfl (show vp_in 7 12 from zx (n := 7) rfl (by decide) (by decide)) (by decide) dX9_copy__10 ?_
  refine lv_iconst (v := 0) hx hb dX9_copy__11 (by decide) ?_
  refine lv_aload_n hx hb dX9_copy__12 rfl (lv_at hl 2 rfl) ?_
  refine lv_iload_n hx hb dX9_copy__13 rfl (lv_at hl 0 rfl) ?_
  refine y_aq (D := (dC, dI)) (cl := vwCl) (tys := yt ca) (t0 := 1) (j := 18) hx hb hK hG (i := 10) yk_10 (by decide) (by decide) rfl (show vp_in 7 12 from zx (n := 7) rfl (by decide) (by decide)) (by decide) dX9_copy__14 ?_
  refine lv_iconst (v := 0) hx hb dX9_copy__15 (by decide) ?_
  refine lv_aload_n hx hb dX9_copy__16 rfl (lv_at hl 1 rfl) ?_
  refine lv_iload_n hx hb dX9_copy__17 rfl (lv_at hl 0 rfl) ?_
  refine y_aq (D := (dC, dI)) (cl := vwCl) (tys := yt ca) (t0 := 1) (j := 18) hx hb hK hH (i := 10) yk_10 (by decide) (by decide) rfl (show vp_in 7 12 from zx (n := 7) rfl (by decide) (by decide)) (by decide) dX9_copy__18 ?_
  refine y_len (D := (dC, dI)) (cl := vwCl) (tys := yt ca) (t0 := 0) (v := 4) hx hb hK hH (i := 18) yk_18 (by decide) (by decide) rfl (by decide) dX9_copy__19 ?_
  refine y_cp (t0 := 0) (n := 4) (i := 18) (j := 18) hx hb (hml.trans hl.1.symm) hown (hts (.methodLink RX9 72 arraycopyName) (by decide +kernel)) (hts (.native arraycopyName) (by decide +kernel)) (hts (.static arraycopyName) (by decide +kernel)) (hts (.initialized "java/lang/System") (by decide +kernel)) hK hG hH hI2 hS (fun _ h => h) yk_18 yk_18 rfl rfl (by decide) (by decide) (by decide) (Nat.le_of_ble_eq_true rfl) (Nat.le_of_ble_eq_true rfl) dX9_copy__20 (fun H locs hG oq hS => ?_)
  have hH := hH.kept (fun i hi => oq _ (hX i 18 hi (by rw [yk_18]; decide)))
  refine lv_iinc (v := 8) (lv' := [(2, .int 8), (0, .ref (ad 10)), (1, .ref (ad2 10))]) hx hb dX9_copy__23 hl (k := 0) rfl (by decide) (by decide) rfl (fun ls hl => ?_)
  refine lv_goto (tgt := 2) hx hb dX9_copy__26 (by decide) ?_
  refine lv_iload_n hx hb dX9_copy__2 rfl (lv_at hl 0 rfl) ?_
  refine lv_aload_n hx hb dX9_copy__3 rfl (lv_at hl 1 rfl) ?_
  refine y_len (D := (dC, dI)) (cl := vwCl) (tys := yt ca) (t0 := 1) (v := 12) hx hb hK hH (i := 10) yk_10 (by decide) (by decide) rfl (by decide) dX9_copy__4 ?_
  refine lv_icmp_ge (tgt := 29) hx hb dX9_copy__5 (by decide) (fun c9 => absurd c9 (by decide)) (fun _ => ?_)
  refine lv_aload_n hx hb dX9_copy__8 rfl (lv_at hl 1 rfl) ?_
  refine lv_iload_n hx hb dX9_copy__9 rfl (lv_at hl 0 rfl) ?_
  refine y_aq (D := (dC, dI)) (cl := vwCl) (tys := yt ca) (t0 := 1) (j := 19) hx hb hK hH (i := 10) yk_10 (by decide) (by decide) rfl (show vp_in 8 12 from zx (n := 8) rfl (by decide) (by decide)) (by decide) dX9_copy__10 ?_
  refine lv_iconst (v := 0) hx hb dX9_copy__11 (by decide) ?_
  refine lv_aload_n hx hb dX9_copy__12 rfl (lv_at hl 2 rfl) ?_
  refine lv_iload_n hx hb dX9_copy__13 rfl (lv_at hl 0 rfl) ?_
  refine y_aq (D := (dC, dI)) (cl := vwCl) (tys := yt ca) (t0 := 1) (j := 19) hx hb hK hG (i := 10) yk_10 (by decide) (by decide) rfl (show vp_in 8 12 from zx (n := 8) rfl (by decide) (by decide)) (by decide) dX9_copy__14 ?_
  refine lv_iconst (v := 0) hx hb dX9_copy__15 (by decide) ?_
  refine lv_aload_n hx hb dX9_copy__16 rfl (lv_at hl 1 rfl) ?_
  refine lv_iload_n hx hb dX9_copy__17 rfl (lv_at hl 0 rfl) ?_
  refine y_aq (D := (dC, dI)) (cl := vwCl) (tys := yt ca) (t0 := 1) (j := 19) hx hb hK hH (i := 10) yk_10 (by decide) (by decide) rfl (show vp_in 8 12 from zx (n := 8) rfl (by decide) (by decide)) (by decide) dX9_copy__18 ?_
  refine y_len (D := (dC, dI)) (cl := vwCl) (tys := yt ca) (t0 := 0) (v := 4) hx hb hK hH (i := 19) yk_19 (by decide) (by decide) rfl (by decide) dX9_copy__19 ?_
  refine y_cp (t0 := 0) (n := 4) (i := 19) (j := 19) hx hb (hml.trans hl.1.symm) hown (hts (.methodLink RX9 72 arraycopyName) (by decide +kernel)) (hts (.native arraycopyName) (by decide +kernel)) (hts (.static arraycopyName) (by decide +kernel)) (hts (.initialized "java/lang/System") (by decide +kernel)) hK hG hH hI2 hS (fun _ h => h) yk_19 yk_19 rfl rfl (by decide) (by decide) (by decide) (Nat.le_of_ble_eq_true rfl) (Nat.le_of_ble_eq_true rfl) dX9_copy__20 (fun H locs hG oq hS => ?_)
  have hH := hH.kept (fun i hi => oq _ (hX i 19 hi (by rw [yk_19]; decide)))
  refine lv_iinc (v := 9) (lv' := [(2, .int 9), (0, .ref (ad 10)), (1, .ref (ad2 10))]) hx hb dX9_copy__23 hl (k := 0) rfl (by decide) (by decide) rfl (fun ls hl => ?_)
  refine lv_goto (tgt := 2) hx hb dX9_copy__26 (by decide) ?_
  refine lv_iload_n hx hb dX9_copy__2 rfl (lv_at hl 0 rfl) ?_
  refine lv_aload_n hx hb dX9_copy__3 rfl (lv_at hl 1 rfl) ?_
  refine y_len (D := (dC, dI)) (cl := vwCl) (tys := yt ca) (t0 := 1) (v := 12) hx hb hK hH (i := 10) yk_10 (by decide) (by decide) rfl (by decide) dX9_copy__4 ?_
  refine lv_icmp_ge (tgt := 29) hx hb dX9_copy__5 (by decide) (fun c9 => absurd c9 (by decide)) (fun _ => ?_)
  refine lv_aload_n hx hb dX9_copy__8 rfl (lv_at hl 1 rfl) ?_
  refine lv_iload_n hx hb dX9_copy__9 rfl (lv_at hl 0 rfl) ?_
  refine y_aq (D := (dC, dI)) (cl := vwCl) (tys := yt ca) (t0 := 1) (j := 20) hx hb hK hH (i := 10) yk_10 (by decide) (by decide) rfl (show vp_in 9 12 from zx (n := 9) rfl (by decide) (by decide)) (by decide) dX9_copy__10 ?_
  refine lv_iconst (v := 0) hx hb dX9_copy__11 (by decide) ?_
  refine lv_aload_n hx hb dX9_copy__12 rfl (lv_at hl 2 rfl) ?_
  refine lv_iload_n hx hb dX9_copy__13 rfl (lv_at hl 0 rfl) ?_
  refine y_aq (D := (dC, dI)) (cl := vwCl) (tys := yt ca) (t0 := 1) (j := 20) hx hb hK hG (i := 10) yk_10 (by decide) (by decide) rfl (show vp_in 9 12 from zx (n := 9) rfl (by decide) (by decide)) (by decide) dX9_copy__14 ?_
  refine lv_iconst (v := 0) hx hb dX9_copy__15 (by decide) ?_
  refine lv_aload_n hx hb dX9_copy__16 rfl (lv_at hl 1 rfl) ?_
  refine lv_iload_n hx hb dX9_copy__17 rfl (lv_at hl 0 rfl) ?_
  refine y_aq (D := (dC, dI)) (cl := vwCl) (tys := yt ca) (t0 := 1) (j := 20) hx hb hK hH (i := 10) yk_10 (by decide) (by decide) rfl (show vp_in 9 12 from zx (n := 9) rfl (by decide) (by decide)) (by decide) dX9_copy__18 ?_
  refine y_len (D := (dC, dI)) (cl := vwCl) (tys := yt ca) (t0 := 0) (v := 4) hx hb hK hH (i := 20) yk_20 (by decide) (by decide) rfl (by decide) dX9_copy__19 ?_
  refine y_cp (t0 := 0) (n := 4) (i := 20) (j := 20) hx hb (hml.trans hl.1.symm) hown (hts (.methodLink RX9 72 arraycopyName) (by decide +kernel)) (hts (.native arraycopyName) (by decide +kernel)) (hts (.static arraycopyName) (by decide +kernel)) (hts (.initialized "java/lang/System") (by decide +kernel)) hK hG hH hI2 hS (fun _ h => h) yk_20 yk_20 rfl rfl (by decide) (by decide) (by decide) (Nat.le_of_ble_eq_true rfl) (Nat.le_of_ble_eq_true rfl) dX9_copy__20 (fun H locs hG oq hS => ?_)
  have hH := hH.kept (fun i hi => oq _ (hX i 20 hi (by rw [yk_20]; decide)))
  refine lv_iinc (v := 10) (lv' := [(2, .int 10), (0, .ref (ad 10)), (1, .ref (ad2 10))]) hx hb dX9_copy__23 hl (k := 0) rfl (by decide) (by decide) rfl (fun ls hl => ?_)
  refine lv_goto (tgt := 2) hx hb dX9_copy__26 (by decide) ?_
  refine lv_iload_n hx hb dX9_copy__2 rfl (lv_at hl 0 rfl) ?_
  refine lv_aload_n hx hb dX9_copy__3 rfl (lv_at hl 1 rfl) ?_
  refine y_len (D := (dC, dI)) (cl := vwCl) (tys := yt ca) (t0 := 1) (v := 12) hx hb hK hH (i := 10) yk_10 (by decide) (by decide) rfl (by decide) dX9_copy__4 ?_
  refine lv_icmp_ge (tgt := 29) hx hb dX9_copy__5 (by decide) (fun c9 => absurd c9 (by decide)) (fun _ => ?_)
  refine lv_aload_n hx hb dX9_copy__8 rfl (lv_at hl 1 rfl) ?_
  refine lv_iload_n hx hb dX9_copy__9 rfl (lv_at hl 0 rfl) ?_
  refine y_aq (D := (dC, dI)) (cl := vwCl) (tys := yt ca) (t0 := 1) (j := 21) hx hb hK hH (i := 10) yk_10 (by decide) (by decide) rfl (show vp_in 10 12 from zx (n := 10) rfl (by decide) (by decide)) (by decide) dX9_copy__10 ?_
  refine lv_iconst (v := 0) hx hb dX9_copy__11 (by decide) ?_
  refine lv_aload_n hx hb dX9_copy__12 rfl (lv_at hl 2 rfl) ?_
  refine lv_iload_n hx hb dX9_copy__13 rfl (lv_at hl 0 rfl) ?_
  refine y_aq (D := (dC, dI)) (cl := vwCl) (tys := yt ca) (t0 := 1) (j := 21) hx hb hK hG (i := 10) yk_10 (by decide) (by decide) rfl (show vp_in 10 12 from zx (n := 10) rfl (by decide) (by decide)) (by decide) dX9_copy__14 ?_
  refine lv_iconst (v := 0) hx hb dX9_copy__15 (by decide) ?_
  refine lv_aload_n hx hb dX9_copy__16 rfl (lv_at hl 1 rfl) ?_
  refine lv_iload_n hx hb dX9_copy__17 rfl (lv_at hl 0 rfl) ?_
  refine y_aq (D := (dC, dI)) (cl := vwCl) (tys := yt ca) (t0 := 1) (j := 21) hx hb hK hH (i := 10) yk_10 (by decide) (by decide) rfl (show vp_in 10 12 from zx (n := 10) rfl (by decide) (by decide)) (by decide) dX9_copy__18 ?_
  refine y_len (D := (dC, dI)) (cl := vwCl) (tys := yt ca) (t0 := 0) (v := 4) hx hb hK hH (i := 21) yk_21 (by decide) (by decide) rfl (by decide) dX9_copy__19 ?_
  refine y_cp (t0 := 0) (n := 4) (i := 21) (j := 21) hx hb (hml.trans hl.1.symm) hown (hts (.methodLink RX9 72 arraycopyName) (by decide +kernel)) (hts (.native arraycopyName) (by decide +kernel)) (hts (.static arraycopyName) (by decide +kernel)) (hts (.initialized "java/lang/System") (by decide +kernel)) hK hG hH hI2 hS (fun _ h => h) yk_21 yk_21 rfl rfl (by decide) (by decide) (by decide) (Nat.le_of_ble_eq_true rfl) (Nat.le_of_ble_eq_true rfl) dX9_copy__20 (fun H locs hG oq hS => ?_)
  have hH := hH.kept (fun i hi => oq _ (hX i 21 hi (by rw [yk_21]; decide)))
  refine lv_iinc (v := 11) (lv' := [(2, .int 11), (0, .ref (ad 10)), (1, .ref (ad2 10))]) hx hb dX9_copy__23 hl (k := 0) rfl (by decide) (by decide) rfl (fun ls hl => ?_)
  refine lv_goto (tgt := 2) hx hb dX9_copy__26 (by decide) ?_
  refine lv_iload_n hx hb dX9_copy__2 rfl (lv_at hl 0 rfl) ?_
  refine lv_aload_n hx hb dX9_copy__3 rfl (lv_at hl 1 rfl) ?_
  refine y_len (D := (dC, dI)) (cl := vwCl) (tys := yt ca) (t0 := 1) (v := 12) hx hb hK hH (i := 10) yk_10 (by decide) (by decide) rfl (by decide) dX9_copy__4 ?_
  refine lv_icmp_ge (tgt := 29) hx hb dX9_copy__5 (by decide) (fun c9 => absurd c9 (by decide)) (fun _ => ?_)
  refine lv_aload_n hx hb dX9_copy__8 rfl (lv_at hl 1 rfl) ?_
  refine lv_iload_n hx hb dX9_copy__9 rfl (lv_at hl 0 rfl) ?_
  refine y_aq (D := (dC, dI)) (cl := vwCl) (tys := yt ca) (t0 := 1) (j := 22) hx hb hK hH (i := 10) yk_10 (by decide) (by decide) rfl (show vp_in 11 12 from zx (n := 11) rfl (by decide) (by decide)) (by decide) dX9_copy__10 ?_
  refine lv_iconst (v := 0) hx hb dX9_copy__11 (by decide) ?_
  refine lv_aload_n hx hb dX9_copy__12 rfl (lv_at hl 2 rfl) ?_
  refine lv_iload_n hx hb dX9_copy__13 rfl (lv_at hl 0 rfl) ?_
  refine y_aq (D := (dC, dI)) (cl := vwCl) (tys := yt ca) (t0 := 1) (j := 22) hx hb hK hG (i := 10) yk_10 (by decide) (by decide) rfl (show vp_in 11 12 from zx (n := 11) rfl (by decide) (by decide)) (by decide) dX9_copy__14 ?_
  refine lv_iconst (v := 0) hx hb dX9_copy__15 (by decide) ?_
  refine lv_aload_n hx hb dX9_copy__16 rfl (lv_at hl 1 rfl) ?_
  refine lv_iload_n hx hb dX9_copy__17 rfl (lv_at hl 0 rfl) ?_
  refine y_aq (D := (dC, dI)) (cl := vwCl) (tys := yt ca) (t0 := 1) (j := 22) hx hb hK hH (i := 10) yk_10 (by decide) (by decide) rfl (show vp_in 11 12 from zx (n := 11) rfl (by decide) (by decide)) (by decide) dX9_copy__18 ?_
  refine y_len (D := (dC, dI)) (cl := vwCl) (tys := yt ca) (t0 := 0) (v := 4) hx hb hK hH (i := 22) yk_22 (by decide) (by decide) rfl (by decide) dX9_copy__19 ?_
  refine y_cp (t0 := 0) (n := 4) (i := 22) (j := 22) hx hb (hml.trans hl.1.symm) hown (hts (.methodLink RX9 72 arraycopyName) (by decide +kernel)) (hts (.native arraycopyName) (by decide +kernel)) (hts (.static arraycopyName) (by decide +kernel)) (hts (.initialized "java/lang/System") (by decide +kernel)) hK hG hH hI2 hS (fun _ h => h) yk_22 yk_22 rfl rfl (by decide) (by decide) (by decide) (Nat.le_of_ble_eq_true rfl) (Nat.le_of_ble_eq_true rfl) dX9_copy__20 (fun H locs hG oq hS => ?_)
  have hH := hH.kept (fun i hi => oq _ (hX i 22 hi (by rw [yk_22]; decide)))
  refine lv_iinc (v := 12) (lv' := [(2, .int 12), (0, .ref (ad 10)), (1, .ref (ad2 10))]) hx hb dX9_copy__23 hl (k := 0) rfl (by decide) (by decide) rfl (fun ls hl => ?_)
  refine lv_goto (tgt := 2) hx hb dX9_copy__26 (by decide) ?_
  refine lv_iload_n hx hb dX9_copy__2 rfl (lv_at hl 0 rfl) ?_
  refine lv_aload_n hx hb dX9_copy__3 rfl (lv_at hl 1 rfl) ?_
  refine y_len (D := (dC, dI)) (cl := vwCl) (tys := yt ca) (t0 := 1) (v := 12) hx hb hK hH (i := 10) yk_10 (by decide) (by decide) rfl (by decide) dX9_copy__4 ?_
  refine lv_icmp_ge (tgt := 29) hx hb dX9_copy__5 (by decide) (fun _ => ?_) (fun c9 => absurd c9 (by decide))
  refine W.widen (k := 0) (n := 0) (Nat.le_of_ble_eq_true rfl) (Nat.le_of_ble_eq_true rfl) ?_
  exact W.vret hx hb hr (fun t ht hW => ⟨⟨(), rfl, trivial, z_to (B := (fun H => yW dC dI ca ad (yM 0) H ∧ yW dC dI ca ad2 (yM 0) H)) ht ⟨hH, hG⟩⟩, hS.F ht⟩) hS.2.2 dX9_copy__29
set_option maxHeartbeats 4000000 in
set_option maxRecDepth 100000 in
theorem m_X9_copy_w (l : Launch) (dC : Nat → ClassId) (dI : Nat → Nat → Nat) (ca : Nat → ClassId) (ad : Nat → Nat) (hI : z_I yd ad) (ad2 : Nat → Nat) (hI2 : z_I yd ad2) (hX : ∀ i j, yd.1 i < 200 → yd.1 j < 200 → ad i ≠ ad2 j) : Met l yX9_copy_ wsX9_copy_ ({ frames := 1, cells := 0, slots := 0, locals := 26 }) (z_Py (dC, dI) vwCl (yt ca) zw_nest [.ref (ad 23), .ref (ad2 23)] (fun H => yW dC dI ca ad (yM 0) H ∧ yW dC dI ca ad2 (yM 0) H)) (z_Qv (fun H => yW dC dI ca ad (yM 0) H ∧ yW dC dI ca ad2 (yM 0) H) (z_A yd ad2)) 0 0 (z_A yd ad2) := by
  refine Met.ofW (cc := cX9_copy_) (maxL := 3) (ret := none) (by decide) rfl ?_
  intro p e s m args below meth c s₁ B9 hml hv
  obtain ⟨rfl, ⟨hH, hG⟩, hK, hN, hXo⟩ := hv
  have hx := B9.exec
  have hb := B9.bytes
  have hr := B9.returns
  have hts := atoms_spec (ws := wsX9_copy_) B9.pre
  have hown : s.vm.findClass RX9 = some m.cls := findClass_of_methodNamed B9.named
  have hlocks := B9.notSynchronized
  have hS : va_S (z_A yd ad2) s.heap s.heap [] := va_S.rf
  have hl := lv_entry ([.ref (ad 23), .ref (ad2 23)]) (n := 3) (Nat.le_of_ble_eq_true rfl)
  rw [lg_entry_eq]
  generalize (lg_sl ([.ref (ad 23), .ref (ad2 23)]) ++ List.replicate (3 - (lg_sl ([.ref (ad 23), .ref (ad2 23)])).length) Slot.unset).toArray = ls at hl ⊢
  have hl : lv_has ls 3 [(0, .ref (ad 23)), (1, .ref (ad2 23))] := hl
  refine lv_iconst (v := 0) hx hb dX9_copy__0 (by decide) ?_
  refine lv_istore_n (lv' := [(2, .int 0), (0, .ref (ad 23)), (1, .ref (ad2 23))]) hx hb dX9_copy__1 rfl hl (by decide) rfl (fun ls hl => ?_)
  refine lv_iload_n hx hb dX9_copy__2 rfl (lv_at hl 0 rfl) ?_
  refine lv_aload_n hx hb dX9_copy__3 rfl (lv_at hl 1 rfl) ?_
  refine y_len (D := (dC, dI)) (cl := vwCl) (tys := yt ca) (t0 := 1) (v := 6) hx hb hK hH (i := 23) yk_23 (by decide) (by decide) rfl (by decide) dX9_copy__4 ?_
  refine lv_icmp_ge (tgt := 29) hx hb dX9_copy__5 (by decide) (fun c9 => absurd c9 (by decide)) (fun _ => ?_)
  refine lv_aload_n hx hb dX9_copy__8 rfl (lv_at hl 1 rfl) ?_
  refine lv_iload_n hx hb dX9_copy__9 rfl (lv_at hl 0 rfl) ?_
  refine y_aq (D := (dC, dI)) (cl := vwCl) (tys := yt ca) (t0 := 1) (j := 24) hx hb hK hH (i := 23) yk_23 (by decide) (by decide) rfl (show vp_in 0 6 from zx (n := 0) rfl (by decide) (by decide)) (by decide) dX9_copy__10 ?_
  refine lv_iconst (v := 0) hx hb dX9_copy__11 (by decide) ?_
  refine lv_aload_n hx hb dX9_copy__12 rfl (lv_at hl 2 rfl) ?_
  refine lv_iload_n hx hb dX9_copy__13 rfl (lv_at hl 0 rfl) ?_
  refine y_aq (D := (dC, dI)) (cl := vwCl) (tys := yt ca) (t0 := 1) (j := 24) hx hb hK hG (i := 23) yk_23 (by decide) (by decide) rfl (show vp_in 0 6 from zx (n := 0) rfl (by decide) (by decide)) (by decide) dX9_copy__14 ?_
  refine lv_iconst (v := 0) hx hb dX9_copy__15 (by decide) ?_
  refine lv_aload_n hx hb dX9_copy__16 rfl (lv_at hl 1 rfl) ?_
  refine lv_iload_n hx hb dX9_copy__17 rfl (lv_at hl 0 rfl) ?_
  refine y_aq (D := (dC, dI)) (cl := vwCl) (tys := yt ca) (t0 := 1) (j := 24) hx hb hK hH (i := 23) yk_23 (by decide) (by decide) rfl (show vp_in 0 6 from zx (n := 0) rfl (by decide) (by decide)) (by decide) dX9_copy__18 ?_
  refine y_len (D := (dC, dI)) (cl := vwCl) (tys := yt ca) (t0 := 0) (v := 9) hx hb hK hH (i := 24) yk_24 (by decide) (by decide) rfl (by decide) dX9_copy__19 ?_
  refine y_cp (t0 := 0) (n := 9) (i := 24) (j := 24) hx hb (hml.trans hl.1.symm) hown (hts (.methodLink RX9 72 arraycopyName) (by decide +kernel)) (hts (.native arraycopyName) (by decide +kernel)) (hts (.static arraycopyName) (by decide +kernel)) (hts (.initialized "java/lang/System") (by decide +kernel)) hK hG hH hI2 hS (fun _ h => h) yk_24 yk_24 rfl rfl (by decide) (by decide) (by decide) (Nat.le_of_ble_eq_true rfl) (Nat.le_of_ble_eq_true rfl) dX9_copy__20 (fun H locs hG oq hS => ?_)
  have hH := hH.kept (fun i hi => oq _ (hX i 24 hi (by rw [yk_24]; decide)))
  refine lv_iinc (v := 1) (lv' := [(2, .int 1), (0, .ref (ad 23)), (1, .ref (ad2 23))]) hx hb dX9_copy__23 hl (k := 0) rfl (by decide) (by decide) rfl (fun ls hl => ?_)
  refine lv_goto (tgt := 2) hx hb dX9_copy__26 (by decide) ?_
  refine lv_iload_n hx hb dX9_copy__2 rfl (lv_at hl 0 rfl) ?_
  refine lv_aload_n hx hb dX9_copy__3 rfl (lv_at hl 1 rfl) ?_
  refine y_len (D := (dC, dI)) (cl := vwCl) (tys := yt ca) (t0 := 1) (v := 6) hx hb hK hH (i := 23) yk_23 (by decide) (by decide) rfl (by decide) dX9_copy__4 ?_
  refine lv_icmp_ge (tgt := 29) hx hb dX9_copy__5 (by decide) (fun c9 => absurd c9 (by decide)) (fun _ => ?_)
  refine lv_aload_n hx hb dX9_copy__8 rfl (lv_at hl 1 rfl) ?_
  refine lv_iload_n hx hb dX9_copy__9 rfl (lv_at hl 0 rfl) ?_
  refine y_aq (D := (dC, dI)) (cl := vwCl) (tys := yt ca) (t0 := 1) (j := 25) hx hb hK hH (i := 23) yk_23 (by decide) (by decide) rfl (show vp_in 1 6 from zx (n := 1) rfl (by decide) (by decide)) (by decide) dX9_copy__10 ?_
  refine lv_iconst (v := 0) hx hb dX9_copy__11 (by decide) ?_
  refine lv_aload_n hx hb dX9_copy__12 rfl (lv_at hl 2 rfl) ?_
  refine lv_iload_n hx hb dX9_copy__13 rfl (lv_at hl 0 rfl) ?_
  refine y_aq (D := (dC, dI)) (cl := vwCl) (tys := yt ca) (t0 := 1) (j := 25) hx hb hK hG (i := 23) yk_23 (by decide) (by decide) rfl (show vp_in 1 6 from zx (n := 1) rfl (by decide) (by decide)) (by decide) dX9_copy__14 ?_
  refine lv_iconst (v := 0) hx hb dX9_copy__15 (by decide) ?_
  refine lv_aload_n hx hb dX9_copy__16 rfl (lv_at hl 1 rfl) ?_
  refine lv_iload_n hx hb dX9_copy__17 rfl (lv_at hl 0 rfl) ?_
  refine y_aq (D := (dC, dI)) (cl := vwCl) (tys := yt ca) (t0 := 1) (j := 25) hx hb hK hH (i := 23) yk_23 (by decide) (by decide) rfl (show vp_in 1 6 from zx (n := 1) rfl (by decide) (by decide)) (by decide) dX9_copy__18 ?_
  refine y_len (D := (dC, dI)) (cl := vwCl) (tys := yt ca) (t0 := 0) (v := 9) hx hb hK hH (i := 25) yk_25 (by decide) (by decide) rfl (by decide) dX9_copy__19 ?_
  refine y_cp (t0 := 0) (n := 9) (i := 25) (j := 25) hx hb (hml.trans hl.1.symm) hown (hts (.methodLink RX9 72 arraycopyName) (by decide +kernel)) (hts (.native arraycopyName) (by decide +kernel)) (hts (.static arraycopyName) (by decide +kernel)) (hts (.initialized "java/lang/System") (by decide +kernel)) hK hG hH hI2 hS (fun _ h => h) yk_25 yk_25 rfl rfl (by decide) (by decide) (by decide) (Nat.le_of_ble_eq_true rfl) (Nat.le_of_ble_eq_true rfl) dX9_copy__20 (fun H locs hG oq hS => ?_)
  have hH := hH.kept (fun i hi => oq _ (hX i 25 hi (by rw [yk_25]; decide)))
  refine lv_iinc (v := 2) (lv' := [(2, .int 2), (0, .ref (ad 23)), (1, .ref (ad2 23))]) hx hb dX9_copy__23 hl (k := 0) rfl (by decide) (by decide) rfl (fun ls hl => ?_)
  refine lv_goto (tgt := 2) hx hb dX9_copy__26 (by decide) ?_
  refine lv_iload_n hx hb dX9_copy__2 rfl (lv_at hl 0 rfl) ?_
  refine lv_aload_n hx hb dX9_copy__3 rfl (lv_at hl 1 rfl) ?_
  refine y_len (D := (dC, dI)) (cl := vwCl) (tys := yt ca) (t0 := 1) (v := 6) hx hb hK hH (i := 23) yk_23 (by decide) (by decide) rfl (by decide) dX9_copy__4 ?_
  refine lv_icmp_ge (tgt := 29) hx hb dX9_copy__5 (by decide) (fun c9 => absurd c9 (by decide)) (fun _ => ?_)
  refine lv_aload_n hx hb dX9_copy__8 rfl (lv_at hl 1 rfl) ?_
  refine lv_iload_n hx hb dX9_copy__9 rfl (lv_at hl 0 rfl) ?_
  refine y_aq (D := (dC, dI)) (cl := vwCl) (tys := yt ca) (t0 := 1) (j := 26) hx hb hK hH (i := 23) yk_23 (by decide) (by decide) rfl (show vp_in 2 6 from zx (n := 2) rfl (by decide) (by decide)) (by decide) dX9_copy__10 ?_
  refine lv_iconst (v := 0) hx hb dX9_copy__11 (by decide) ?_
  refine lv_aload_n hx hb dX9_copy__12 rfl (lv_at hl 2 rfl) ?_
  refine lv_iload_n hx hb dX9_copy__13 rfl (lv_at hl 0 rfl) ?_
  refine y_aq (D := (dC, dI)) (cl := vwCl) (tys := yt ca) (t0 := 1) (j := 26) hx hb hK hG (i := 23) yk_23 (by decide) (by decide) rfl (show vp_in 2 6 from zx (n := 2) rfl (by decide) (by decide)) (by decide) dX9_copy__14 ?_
  refine lv_iconst (v := 0) hx hb dX9_copy__15 (by decide) ?_
  refine lv_aload_n hx hb dX9_copy__16 rfl (lv_at hl 1 rfl) ?_
  refine lv_iload_n hx hb dX9_copy__17 rfl (lv_at hl 0 rfl) ?_
  refine y_aq (D := (dC, dI)) (cl := vwCl) (tys := yt ca) (t0 := 1) (j := 26) hx hb hK hH (i := 23) yk_23 (by decide) (by decide) rfl (show vp_in 2 6 from zx (n := 2) rfl (by decide) (by decide)) (by decide) dX9_copy__18 ?_
  refine y_len (D := (dC, dI)) (cl := vwCl) (tys := yt ca) (t0 := 0) (v := 9) hx hb hK hH (i := 26) yk_26 (by decide) (by decide) rfl (by decide) dX9_copy__19 ?_
  refine y_cp (t0 := 0) (n := 9) (i := 26) (j := 26) hx hb (hml.trans hl.1.symm) hown (hts (.methodLink RX9 72 arraycopyName) (by decide +kernel)) (hts (.native arraycopyName) (by decide +kernel)) (hts (.static arraycopyName) (by decide +kernel)) (hts (.initialized "java/lang/System") (by decide +kernel)) hK hG hH hI2 hS (fun _ h => h) yk_26 yk_26 rfl rfl (by decide) (by decide) (by decide) (Nat.le_of_ble_eq_true rfl) (Nat.le_of_ble_eq_true rfl) dX9_copy__20 (fun H locs hG oq hS => ?_)
  have hH := hH.kept (fun i hi => oq _ (hX i 26 hi (by rw [yk_26]; decide)))
  refine lv_iinc (v := 3) (lv' := [(2, .int 3), (0, .ref (ad 23)), (1, .ref (ad2 23))]) hx hb dX9_copy__23 hl (k := 0) rfl (by decide) (by decide) rfl (fun ls hl => ?_)
  refine lv_goto (tgt := 2) hx hb dX9_copy__26 (by decide) ?_
  refine lv_iload_n hx hb dX9_copy__2 rfl (lv_at hl 0 rfl) ?_
  refine lv_aload_n hx hb dX9_copy__3 rfl (lv_at hl 1 rfl) ?_
  refine y_len (D := (dC, dI)) (cl := vwCl) (tys := yt ca) (t0 := 1) (v := 6) hx hb hK hH (i := 23) yk_23 (by decide) (by decide) rfl (by decide) dX9_copy__4 ?_
  refine lv_icmp_ge (tgt := 29) hx hb dX9_copy__5 (by decide) (fun c9 => absurd c9 (by decide)) (fun _ => ?_)
  refine lv_aload_n hx hb dX9_copy__8 rfl (lv_at hl 1 rfl) ?_
  refine lv_iload_n hx hb dX9_copy__9 rfl (lv_at hl 0 rfl) ?_
  refine y_aq (D := (dC, dI)) (cl := vwCl) (tys := yt ca) (t0 := 1) (j := 27) hx hb hK hH (i := 23) yk_23 (by decide) (by decide) rfl (show vp_in 3 6 from zx (n := 3) rfl (by decide) (by decide)) (by decide) dX9_copy__10 ?_
  refine lv_iconst (v := 0) hx hb dX9_copy__11 (by decide) ?_
  refine lv_aload_n hx hb dX9_copy__12 rfl (lv_at hl 2 rfl) ?_
  refine lv_iload_n hx hb dX9_copy__13 rfl (lv_at hl 0 rfl) ?_
  refine y_aq (D := (dC, dI)) (cl := vwCl) (tys := yt ca) (t0 := 1) (j := 27) hx hb hK hG (i := 23) yk_23 (by decide) (by decide) rfl (show vp_in 3 6 from zx (n := 3) rfl (by decide) (by decide)) (by decide) dX9_copy__14 ?_
  refine lv_iconst (v := 0) hx hb dX9_copy__15 (by decide) ?_
  refine lv_aload_n hx hb dX9_copy__16 rfl (lv_at hl 1 rfl) ?_
  refine lv_iload_n hx hb dX9_copy__17 rfl (lv_at hl 0 rfl) ?_
  refine y_aq (D := (dC, dI)) (cl := vwCl) (tys := yt ca) (t0 := 1) (j := 27) hx hb hK hH (i := 23) yk_23 (by decide) (by decide) rfl (show vp_in 3 6 from zx (n := 3) rfl (by decide) (by decide)) (by decide) dX9_copy__18 ?_
  refine y_len (D := (dC, dI)) (cl := vwCl) (tys := yt ca) (t0 := 0) (v := 9) hx hb hK hH (i := 27) yk_27 (by decide) (by decide) rfl (by decide) dX9_copy__19 ?_
  refine y_cp (t0 := 0) (n := 9) (i := 27) (j := 27) hx hb (hml.trans hl.1.symm) hown (hts (.methodLink RX9 72 arraycopyName) (by decide +kernel)) (hts (.native arraycopyName) (by decide +kernel)) (hts (.static arraycopyName) (by decide +kernel)) (hts (.initialized "java/lang/System") (by decide +kernel)) hK hG hH hI2 hS (fun _ h => h) yk_27 yk_27 rfl rfl (by decide) (by decide) (by decide) (Nat.le_of_ble_eq_true rfl) (Nat.le_of_ble_eq_true rfl) dX9_copy__20 (fun H locs hG oq hS => ?_)
  have hH := hH.kept (fun i hi => oq _ (hX i 27 hi (by rw [yk_27]; decide)))
  refine lv_iinc (v := 4) (lv' := [(2, .int 4), (0, .ref (ad 23)), (1, .ref (ad2 23))]) hx hb dX9_copy__23 hl (k := 0) rfl (by decide) (by decide) rfl (fun ls hl => ?_)
  refine lv_goto (tgt := 2) hx hb dX9_copy__26 (by decide) ?_
  refine lv_iload_n hx hb dX9_copy__2 rfl (lv_at hl 0 rfl) ?_
  refine lv_aload_n hx hb dX9_copy__3 rfl (lv_at hl 1 rfl) ?_
  refine y_len (D := (dC, dI)) (cl := vwCl) (tys := yt ca) (t0 := 1) (v := 6) hx hb hK hH (i := 23) yk_23 (by decide) (by decide) rfl (by decide) dX9_copy__4 ?_
  refine lv_icmp_ge (tgt := 29) hx hb dX9_copy__5 (by decide) (fun c9 => absurd c9 (by decide)) (fun _ => ?_)
  refine lv_aload_n hx hb dX9_copy__8 rfl (lv_at hl 1 rfl) ?_
  refine lv_iload_n hx hb dX9_copy__9 rfl (lv_at hl 0 rfl) ?_
  refine y_aq (D := (dC, dI)) (cl := vwCl) (tys := yt ca) (t0 := 1) (j := 28) hx hb hK hH (i := 23) yk_23 (by decide) (by decide) rfl (show vp_in 4 6 from zx (n := 4) rfl (by decide) (by decide)) (by decide) dX9_copy__10 ?_
  refine lv_iconst (v := 0) hx hb dX9_copy__11 (by decide) ?_
  refine lv_aload_n hx hb dX9_copy__12 rfl (lv_at hl 2 rfl) ?_
  refine lv_iload_n hx hb dX9_copy__13 rfl (lv_at hl 0 rfl) ?_
  refine y_aq (D := (dC, dI)) (cl := vwCl) (tys := yt ca) (t0 := 1) (j := 28) hx hb hK hG (i := 23) yk_23 (by decide) (by decide) rfl (show vp_in 4 6 from zx (n := 4) rfl (by decide) (by decide)) (by decide) dX9_copy__14 ?_
  refine lv_iconst (v := 0) hx hb dX9_copy__15 (by decide) ?_
  refine lv_aload_n hx hb dX9_copy__16 rfl (lv_at hl 1 rfl) ?_
  refine lv_iload_n hx hb dX9_copy__17 rfl (lv_at hl 0 rfl) ?_
  refine y_aq (D := (dC, dI)) (cl := vwCl) (tys := yt ca) (t0 := 1) (j := 28) hx hb hK hH (i := 23) yk_23 (by decide) (by decide) rfl (show vp_in 4 6 from zx (n := 4) rfl (by decide) (by decide)) (by decide) dX9_copy__18 ?_
  refine y_len (D := (dC, dI)) (cl := vwCl) (tys := yt ca) (t0 := 0) (v := 9) hx hb hK hH (i := 28) yk_28 (by decide) (by decide) rfl (by decide) dX9_copy__19 ?_
  refine y_cp (t0 := 0) (n := 9) (i := 28) (j := 28) hx hb (hml.trans hl.1.symm) hown (hts (.methodLink RX9 72 arraycopyName) (by decide +kernel)) (hts (.native arraycopyName) (by decide +kernel)) (hts (.static arraycopyName) (by decide +kernel)) (hts (.initialized "java/lang/System") (by decide +kernel)) hK hG hH hI2 hS (fun _ h => h) yk_28 yk_28 rfl rfl (by decide) (by decide) (by decide) (Nat.le_of_ble_eq_true rfl) (Nat.le_of_ble_eq_true rfl) dX9_copy__20 (fun H locs hG oq hS => ?_)
  have hH := hH.kept (fun i hi => oq _ (hX i 28 hi (by rw [yk_28]; decide)))
  refine lv_iinc (v := 5) (lv' := [(2, .int 5), (0, .ref (ad 23)), (1, .ref (ad2 23))]) hx hb dX9_copy__23 hl (k := 0) rfl (by decide) (by decide) rfl (fun ls hl => ?_)
  refine lv_goto (tgt := 2) hx hb dX9_copy__26 (by decide) ?_
  refine lv_iload_n hx hb dX9_copy__2 rfl (lv_at hl 0 rfl) ?_
  refine lv_aload_n hx hb dX9_copy__3 rfl (lv_at hl 1 rfl) ?_
  refine y_len (D := (dC, dI)) (cl := vwCl) (tys := yt ca) (t0 := 1) (v := 6) hx hb hK hH (i := 23) yk_23 (by decide) (by decide) rfl (by decide) dX9_copy__4 ?_
  refine lv_icmp_ge (tgt := 29) hx hb dX9_copy__5 (by decide) (fun c9 => absurd c9 (by decide)) (fun _ => ?_)
  refine lv_aload_n hx hb dX9_copy__8 rfl (lv_at hl 1 rfl) ?_
  refine lv_iload_n hx hb dX9_copy__9 rfl (lv_at hl 0 rfl) ?_
  refine y_aq (D := (dC, dI)) (cl := vwCl) (tys := yt ca) (t0 := 1) (j := 29) hx hb hK hH (i := 23) yk_23 (by decide) (by decide) rfl (show vp_in 5 6 from zx (n := 5) rfl (by decide) (by decide)) (by decide) dX9_copy__10 ?_
  refine lv_iconst (v := 0) hx hb dX9_copy__11 (by decide) ?_
  refine lv_aload_n hx hb dX9_copy__12 rfl (lv_at hl 2 rfl) ?_
  refine lv_iload_n hx hb dX9_copy__13 rfl (lv_at hl 0 rfl) ?_
  refine y_aq (D := (dC, dI)) (cl := vwCl) (tys := yt ca) (t0 := 1) (j := 29) hx hb hK hG (i := 23) yk_23 (by decide) (by decide) rfl (show vp_in 5 6 from zx (n := 5) rfl (by decide) (by decide)) (by decide) dX9_copy__14 ?_
  refine lv_iconst (v := 0) hx hb dX9_copy__15 (by decide) ?_
  refine lv_aload_n hx hb dX9_copy__16 rfl (lv_at hl 1 rfl) ?_
  refine lv_iload_n hx hb dX9_copy__17 rfl (lv_at hl 0 rfl) ?_
  refine y_aq (D := (dC, dI)) (cl := vwCl) (tys := yt ca) (t0 := 1) (j := 29) hx hb hK hH (i := 23) yk_23 (by decide) (by decide) rfl (show vp_in 5 6 from zx (n := 5) rfl (by decide) (by decide)) (by decide) dX9_copy__18 ?_
  refine y_len (D := (dC, dI)) (cl := vwCl) (tys := yt ca) (t0 := 0) (v := 9) hx hb hK hH (i := 29) yk_29 (by decide) (by decide) rfl (by decide) dX9_copy__19 ?_
  refine y_cp (t0 := 0) (n := 9) (i := 29) (j := 29) hx hb (hml.trans hl.1.symm) hown (hts (.methodLink RX9 72 arraycopyName) (by decide +kernel)) (hts (.native arraycopyName) (by decide +kernel)) (hts (.static arraycopyName) (by decide +kernel)) (hts (.initialized "java/lang/System") (by decide +kernel)) hK hG hH hI2 hS (fun _ h => h) yk_29 yk_29 rfl rfl (by decide) (by decide) (by decide) (Nat.le_of_ble_eq_true rfl) (Nat.le_of_ble_eq_true rfl) dX9_copy__20 (fun H locs hG oq hS => ?_)
  have hH := hH.kept (fun i hi => oq _ (hX i 29 hi (by rw [yk_29]; decide)))
  refine lv_iinc (v := 6) (lv' := [(2, .int 6), (0, .ref (ad 23)), (1, .ref (ad2 23))]) hx hb dX9_copy__23 hl (k := 0) rfl (by decide) (by decide) rfl (fun ls hl => ?_)
  refine lv_goto (tgt := 2) hx hb dX9_copy__26 (by decide) ?_
  refine lv_iload_n hx hb dX9_copy__2 rfl (lv_at hl 0 rfl) ?_
  refine lv_aload_n hx hb dX9_copy__3 rfl (lv_at hl 1 rfl) ?_
  refine y_len (D := (dC, dI)) (cl := vwCl) (tys := yt ca) (t0 := 1) (v := 6) hx hb hK hH (i := 23) yk_23 (by decide) (by decide) rfl (by decide) dX9_copy__4 ?_
  refine lv_icmp_ge (tgt := 29) hx hb dX9_copy__5 (by decide) (fun _ => ?_) (fun c9 => absurd c9 (by decide))
  refine W.widen (k := 0) (n := 0) (Nat.le_of_ble_eq_true rfl) (Nat.le_of_ble_eq_true rfl) ?_
  exact W.vret hx hb hr (fun t ht hW => ⟨⟨(), rfl, trivial, z_to (B := (fun H => yW dC dI ca ad (yM 0) H ∧ yW dC dI ca ad2 (yM 0) H)) ht ⟨hH, hG⟩⟩, hS.F ht⟩) hS.2.2 dX9_copy__29
set_option maxHeartbeats 4000000 in
set_option maxRecDepth 100000 in
theorem m_X9_copy_s (l : Launch) (dC : Nat → ClassId) (dI : Nat → Nat → Nat) (ca : Nat → ClassId) (ad : Nat → Nat) (hI : z_I yd ad) (ad2 : Nat → Nat) (hI2 : z_I yd ad2) (hX : ∀ i j, yd.1 i < 200 → yd.1 j < 200 → ad i ≠ ad2 j) : Met l yX9_copy_ wsX9_copy_ ({ frames := 1, cells := 0, slots := 0, locals := 26 }) (z_Py (dC, dI) vwCl (yt ca) zw_nest [.ref (ad 30), .ref (ad2 30)] (fun H => yW dC dI ca ad (yM 0) H ∧ yW dC dI ca ad2 (yM 0) H)) (z_Qv (fun H => yW dC dI ca ad (yM 0) H ∧ yW dC dI ca ad2 (yM 0) H) (z_A yd ad2)) 0 0 (z_A yd ad2) := by
  refine Met.ofW (cc := cX9_copy_) (maxL := 3) (ret := none) (by decide) rfl ?_
  intro p e s m args below meth c s₁ B9 hml hv
  obtain ⟨rfl, ⟨hH, hG⟩, hK, hN, hXo⟩ := hv
  have hx := B9.exec
  have hb := B9.bytes
  have hr := B9.returns
  have hts := atoms_spec (ws := wsX9_copy_) B9.pre
  have hown : s.vm.findClass RX9 = some m.cls := findClass_of_methodNamed B9.named
  have hlocks := B9.notSynchronized
  have hS : va_S (z_A yd ad2) s.heap s.heap [] := va_S.rf
  have hl := lv_entry ([.ref (ad 30), .ref (ad2 30)]) (n := 3) (Nat.le_of_ble_eq_true rfl)
  rw [lg_entry_eq]
  generalize (lg_sl ([.ref (ad 30), .ref (ad2 30)]) ++ List.replicate (3 - (lg_sl ([.ref (ad 30), .ref (ad2 30)])).length) Slot.unset).toArray = ls at hl ⊢
  have hl : lv_has ls 3 [(0, .ref (ad 30)), (1, .ref (ad2 30))] := hl
  refine lv_iconst (v := 0) hx hb dX9_copy__0 (by decide) ?_
  refine lv_istore_n (lv' := [(2, .int 0), (0, .ref (ad 30)), (1, .ref (ad2 30))]) hx hb dX9_copy__1 rfl hl (by decide) rfl (fun ls hl => ?_)
  refine lv_iload_n hx hb dX9_copy__2 rfl (lv_at hl 0 rfl) ?_
  refine lv_aload_n hx hb dX9_copy__3 rfl (lv_at hl 1 rfl) ?_
  refine y_len (D := (dC, dI)) (cl := vwCl) (tys := yt ca) (t0 := 1) (v := 3) hx hb hK hH (i := 30) yk_30 (by decide) (by decide) rfl (by decide) dX9_copy__4 ?_
  refine lv_icmp_ge (tgt := 29) hx hb dX9_copy__5 (by decide) (fun c9 => absurd c9 (by decide)) (fun _ => ?_)
  refine lv_aload_n hx hb dX9_copy__8 rfl (lv_at hl 1 rfl) ?_
  refine lv_iload_n hx hb dX9_copy__9 rfl (lv_at hl 0 rfl) ?_
  refine y_aq (D := (dC, dI)) (cl := vwCl) (tys := yt ca) (t0 := 1) (j := 31) hx hb hK hH (i := 30) yk_30 (by decide) (by decide) rfl (show vp_in 0 3 from zx (n := 0) rfl (by decide) (by decide)) (by decide) dX9_copy__10 ?_
  refine lv_iconst (v := 0) hx hb dX9_copy__11 (by decide) ?_
  refine lv_aload_n hx hb dX9_copy__12 rfl (lv_at hl 2 rfl) ?_
  refine lv_iload_n hx hb dX9_copy__13 rfl (lv_at hl 0 rfl) ?_
  refine y_aq (D := (dC, dI)) (cl := vwCl) (tys := yt ca) (t0 := 1) (j := 31) hx hb hK hG (i := 30) yk_30 (by decide) (by decide) rfl (show vp_in 0 3 from zx (n := 0) rfl (by decide) (by decide)) (by decide) dX9_copy__14 ?_
  refine lv_iconst (v := 0) hx hb dX9_copy__15 (by decide) ?_
  refine lv_aload_n hx hb dX9_copy__16 rfl (lv_at hl 1 rfl) ?_
  refine lv_iload_n hx hb dX9_copy__17 rfl (lv_at hl 0 rfl) ?_
  refine y_aq (D := (dC, dI)) (cl := vwCl) (tys := yt ca) (t0 := 1) (j := 31) hx hb hK hH (i := 30) yk_30 (by decide) (by decide) rfl (show vp_in 0 3 from zx (n := 0) rfl (by decide) (by decide)) (by decide) dX9_copy__18 ?_
  refine y_len (D := (dC, dI)) (cl := vwCl) (tys := yt ca) (t0 := 0) (v := 7) hx hb hK hH (i := 31) yk_31 (by decide) (by decide) rfl (by decide) dX9_copy__19 ?_
  refine y_cp (t0 := 0) (n := 7) (i := 31) (j := 31) hx hb (hml.trans hl.1.symm) hown (hts (.methodLink RX9 72 arraycopyName) (by decide +kernel)) (hts (.native arraycopyName) (by decide +kernel)) (hts (.static arraycopyName) (by decide +kernel)) (hts (.initialized "java/lang/System") (by decide +kernel)) hK hG hH hI2 hS (fun _ h => h) yk_31 yk_31 rfl rfl (by decide) (by decide) (by decide) (Nat.le_of_ble_eq_true rfl) (Nat.le_of_ble_eq_true rfl) dX9_copy__20 (fun H locs hG oq hS => ?_)
  have hH := hH.kept (fun i hi => oq _ (hX i 31 hi (by rw [yk_31]; decide)))
  refine lv_iinc (v := 1) (lv' := [(2, .int 1), (0, .ref (ad 30)), (1, .ref (ad2 30))]) hx hb dX9_copy__23 hl (k := 0) rfl (by decide) (by decide) rfl (fun ls hl => ?_)
  refine lv_goto (tgt := 2) hx hb dX9_copy__26 (by decide) ?_
  refine lv_iload_n hx hb dX9_copy__2 rfl (lv_at hl 0 rfl) ?_
  refine lv_aload_n hx hb dX9_copy__3 rfl (lv_at hl 1 rfl) ?_
  refine y_len (D := (dC, dI)) (cl := vwCl) (tys := yt ca) (t0 := 1) (v := 3) hx hb hK hH (i := 30) yk_30 (by decide) (by decide) rfl (by decide) dX9_copy__4 ?_
  refine lv_icmp_ge (tgt := 29) hx hb dX9_copy__5 (by decide) (fun c9 => absurd c9 (by decide)) (fun _ => ?_)
  refine lv_aload_n hx hb dX9_copy__8 rfl (lv_at hl 1 rfl) ?_
  refine lv_iload_n hx hb dX9_copy__9 rfl (lv_at hl 0 rfl) ?_
  refine y_aq (D := (dC, dI)) (cl := vwCl) (tys := yt ca) (t0 := 1) (j := 32) hx hb hK hH (i := 30) yk_30 (by decide) (by decide) rfl (show vp_in 1 3 from zx (n := 1) rfl (by decide) (by decide)) (by decide) dX9_copy__10 ?_
  refine lv_iconst (v := 0) hx hb dX9_copy__11 (by decide) ?_
  refine lv_aload_n hx hb dX9_copy__12 rfl (lv_at hl 2 rfl) ?_
  refine lv_iload_n hx hb dX9_copy__13 rfl (lv_at hl 0 rfl) ?_
  refine y_aq (D := (dC, dI)) (cl := vwCl) (tys := yt ca) (t0 := 1) (j := 32) hx hb hK hG (i := 30) yk_30 (by decide) (by decide) rfl (show vp_in 1 3 from zx (n := 1) rfl (by decide) (by decide)) (by decide) dX9_copy__14 ?_
  refine lv_iconst (v := 0) hx hb dX9_copy__15 (by decide) ?_
  refine lv_aload_n hx hb dX9_copy__16 rfl (lv_at hl 1 rfl) ?_
  refine lv_iload_n hx hb dX9_copy__17 rfl (lv_at hl 0 rfl) ?_
  refine y_aq (D := (dC, dI)) (cl := vwCl) (tys := yt ca) (t0 := 1) (j := 32) hx hb hK hH (i := 30) yk_30 (by decide) (by decide) rfl (show vp_in 1 3 from zx (n := 1) rfl (by decide) (by decide)) (by decide) dX9_copy__18 ?_
  refine y_len (D := (dC, dI)) (cl := vwCl) (tys := yt ca) (t0 := 0) (v := 7) hx hb hK hH (i := 32) yk_32 (by decide) (by decide) rfl (by decide) dX9_copy__19 ?_
  refine y_cp (t0 := 0) (n := 7) (i := 32) (j := 32) hx hb (hml.trans hl.1.symm) hown (hts (.methodLink RX9 72 arraycopyName) (by decide +kernel)) (hts (.native arraycopyName) (by decide +kernel)) (hts (.static arraycopyName) (by decide +kernel)) (hts (.initialized "java/lang/System") (by decide +kernel)) hK hG hH hI2 hS (fun _ h => h) yk_32 yk_32 rfl rfl (by decide) (by decide) (by decide) (Nat.le_of_ble_eq_true rfl) (Nat.le_of_ble_eq_true rfl) dX9_copy__20 (fun H locs hG oq hS => ?_)
  have hH := hH.kept (fun i hi => oq _ (hX i 32 hi (by rw [yk_32]; decide)))
  refine lv_iinc (v := 2) (lv' := [(2, .int 2), (0, .ref (ad 30)), (1, .ref (ad2 30))]) hx hb dX9_copy__23 hl (k := 0) rfl (by decide) (by decide) rfl (fun ls hl => ?_)
  refine lv_goto (tgt := 2) hx hb dX9_copy__26 (by decide) ?_
  refine lv_iload_n hx hb dX9_copy__2 rfl (lv_at hl 0 rfl) ?_
  refine lv_aload_n hx hb dX9_copy__3 rfl (lv_at hl 1 rfl) ?_
  refine y_len (D := (dC, dI)) (cl := vwCl) (tys := yt ca) (t0 := 1) (v := 3) hx hb hK hH (i := 30) yk_30 (by decide) (by decide) rfl (by decide) dX9_copy__4 ?_
  refine lv_icmp_ge (tgt := 29) hx hb dX9_copy__5 (by decide) (fun c9 => absurd c9 (by decide)) (fun _ => ?_)
  refine lv_aload_n hx hb dX9_copy__8 rfl (lv_at hl 1 rfl) ?_
  refine lv_iload_n hx hb dX9_copy__9 rfl (lv_at hl 0 rfl) ?_
  refine y_aq (D := (dC, dI)) (cl := vwCl) (tys := yt ca) (t0 := 1) (j := 33) hx hb hK hH (i := 30) yk_30 (by decide) (by decide) rfl (show vp_in 2 3 from zx (n := 2) rfl (by decide) (by decide)) (by decide) dX9_copy__10 ?_
  refine lv_iconst (v := 0) hx hb dX9_copy__11 (by decide) ?_
  refine lv_aload_n hx hb dX9_copy__12 rfl (lv_at hl 2 rfl) ?_
  refine lv_iload_n hx hb dX9_copy__13 rfl (lv_at hl 0 rfl) ?_
  refine y_aq (D := (dC, dI)) (cl := vwCl) (tys := yt ca) (t0 := 1) (j := 33) hx hb hK hG (i := 30) yk_30 (by decide) (by decide) rfl (show vp_in 2 3 from zx (n := 2) rfl (by decide) (by decide)) (by decide) dX9_copy__14 ?_
  refine lv_iconst (v := 0) hx hb dX9_copy__15 (by decide) ?_
  refine lv_aload_n hx hb dX9_copy__16 rfl (lv_at hl 1 rfl) ?_
  refine lv_iload_n hx hb dX9_copy__17 rfl (lv_at hl 0 rfl) ?_
  refine y_aq (D := (dC, dI)) (cl := vwCl) (tys := yt ca) (t0 := 1) (j := 33) hx hb hK hH (i := 30) yk_30 (by decide) (by decide) rfl (show vp_in 2 3 from zx (n := 2) rfl (by decide) (by decide)) (by decide) dX9_copy__18 ?_
  refine y_len (D := (dC, dI)) (cl := vwCl) (tys := yt ca) (t0 := 0) (v := 7) hx hb hK hH (i := 33) yk_33 (by decide) (by decide) rfl (by decide) dX9_copy__19 ?_
  refine y_cp (t0 := 0) (n := 7) (i := 33) (j := 33) hx hb (hml.trans hl.1.symm) hown (hts (.methodLink RX9 72 arraycopyName) (by decide +kernel)) (hts (.native arraycopyName) (by decide +kernel)) (hts (.static arraycopyName) (by decide +kernel)) (hts (.initialized "java/lang/System") (by decide +kernel)) hK hG hH hI2 hS (fun _ h => h) yk_33 yk_33 rfl rfl (by decide) (by decide) (by decide) (Nat.le_of_ble_eq_true rfl) (Nat.le_of_ble_eq_true rfl) dX9_copy__20 (fun H locs hG oq hS => ?_)
  have hH := hH.kept (fun i hi => oq _ (hX i 33 hi (by rw [yk_33]; decide)))
  refine lv_iinc (v := 3) (lv' := [(2, .int 3), (0, .ref (ad 30)), (1, .ref (ad2 30))]) hx hb dX9_copy__23 hl (k := 0) rfl (by decide) (by decide) rfl (fun ls hl => ?_)
  refine lv_goto (tgt := 2) hx hb dX9_copy__26 (by decide) ?_
  refine lv_iload_n hx hb dX9_copy__2 rfl (lv_at hl 0 rfl) ?_
  refine lv_aload_n hx hb dX9_copy__3 rfl (lv_at hl 1 rfl) ?_
  refine y_len (D := (dC, dI)) (cl := vwCl) (tys := yt ca) (t0 := 1) (v := 3) hx hb hK hH (i := 30) yk_30 (by decide) (by decide) rfl (by decide) dX9_copy__4 ?_
  refine lv_icmp_ge (tgt := 29) hx hb dX9_copy__5 (by decide) (fun _ => ?_) (fun c9 => absurd c9 (by decide))
  refine W.widen (k := 0) (n := 0) (Nat.le_of_ble_eq_true rfl) (Nat.le_of_ble_eq_true rfl) ?_
  exact W.vret hx hb hr (fun t ht hW => ⟨⟨(), rfl, trivial, z_to (B := (fun H => yW dC dI ca ad (yM 0) H ∧ yW dC dI ca ad2 (yM 0) H)) ht ⟨hH, hG⟩⟩, hS.F ht⟩) hS.2.2 dX9_copy__29
set_option maxHeartbeats 4000000 in
set_option maxRecDepth 100000 in
theorem m_X9_copy (l : Launch) (dC : Nat → ClassId) (dI : Nat → Nat → Nat) (ca : Nat → ClassId) (ad : Nat → Nat) (hI : z_I yd ad) (sz : Nat) : Met l yX9_copy wsX9_copy ({ frames := 2, cells := 41, slots := 254, locals := 48 }) (z_Py (dC, dI) vwCl (yt ca) zw_nest [.ref (ad 0)] (fun H => H.size = sz ∧ yW dC dI ca ad (yM 0) H)) (z_Qr sz (fun H => yW dC dI ca ad (yM 0) H ∧ yW dC dI ca (yad sz (sz + 1)) (yM 0) H) (fun q => sz ≤ q)) 41 254 (fun q => sz ≤ q) := by
  refine Met.ofW (cc := cX9_copy) (maxL := 2) (ret := (some (.object "SteamfieldModel$Field"))) (by decide) rfl ?_
  intro p e s m args below meth c s₁ B9 hml hv
  obtain ⟨rfl, ⟨hz, hH⟩, hK, hN, hX⟩ := hv
  have hx := B9.exec
  have hb := B9.bytes
  have hr := B9.returns
  have hts := atoms_spec (ws := wsX9_copy) B9.pre
  have hown : s.vm.findClass RX9 = some m.cls := findClass_of_methodNamed B9.named
  have hlocks := B9.notSynchronized
  have hS : va_S (fun q => sz ≤ q) s.heap s.heap [] := va_S.rf
  have hba : ∀ i, yd.1 i < 200 → ad i < sz := fun i hi => by have b0 := hH.lt hi; omega
  have hAs : ∀ q, s.heap.size ≤ q → (fun q => sz ≤ q) q := fun q h => (hz ▸ h)
  have hinX9 : ∀ w ∈ u_ws RX9 TX9 24, w ∈ wsX9_copy := by decide +kernel
  have hl := lv_entry ([.ref (ad 0)]) (n := 2) (Nat.le_of_ble_eq_true rfl)
  rw [lg_entry_eq]
  generalize (lg_sl ([.ref (ad 0)]) ++ List.replicate (2 - (lg_sl ([.ref (ad 0)])).length) Slot.unset).toArray = ls at hl ⊢
  have hl : lv_has ls 2 [(0, .ref (ad 0))] := hl
  have ec1 : sz = s.heap.size := hz.symm
  have hg1 : sz ≤ sz := Nat.le_refl _
  have hI1 : z_I yd (yad sz (sz + 1)) := yad_I (Nat.lt_succ_self _)
  have hga1 : ∀ i, sz ≤ (yad sz (sz + 1)) i := fun i => yad_ge i
  have hG : z_H (dC, dI) vwCl yf ca yde (yad sz (sz + 1)) zM0 s.heap := fun i hi => absurd hi (by show ¬ (999 < 200); decide)
  refine z_new (D := (dC, dI)) (cl := vwCl) (fl := yf) (ca := ca) (ad := (yad sz (sz + 1))) (C := RX9) (T := TX9) (N := 24) (ci := 9) (i := 0) hx hb hts hinX9 tyX9 tyX9_ok hown (hts (.classLink RX9 12 RX9) (by decide +kernel)) (hts (.instantiable RX9 24) (by decide +kernel)) (hts (.initialized RX9) (by decide +kernel)) hK hG hS hAs rfl (by decide) ec1 (fun _ => rfl) (fun _ => rfl) y_born (Nat.le_of_ble_eq_true rfl) (Nat.le_of_ble_eq_true rfl) dX9_copy_0 (fun H hG z1 o1 hS => ?_)
  have hH := hH.kept (fun i hi => o1 _ (hH.lt hi))
  refine lv_dup hx hb dX9_copy_3 rfl ?_
  refine y_cIPv (D := (dC, dI)) (cl := vwCl) (tys := yt ca) (nw := zw_nest) (As := []) (rest := [.ref ((yad sz (sz + 1)) 0)]) ⟨hx, hb, hml, hown, hts⟩ (m_X9_init l dC dI ca sz (sz + 1) (Nat.lt_succ_self _)) (cwI 0 hts gX9_copy_X9_init rfl rfl rfl (hts (.initialized RX9) (by decide +kernel)) (hts (.methodLink RX9 55 yX9_init) (by decide +kernel)) (hts (.instanceMethod yX9_init) (by decide +kernel)) rfl (by decide +kernel) ⟨Nat.le_of_ble_eq_true rfl, Nat.le_of_ble_eq_true rfl⟩) ⟨by rw [z1, ec1], hG⟩ hK hN hX zw_nest_ok rfl hl.1 rfl (Nat.le_of_ble_eq_true rfl) dX9_copy_4 ⟨Nat.le_of_ble_eq_true rfl, Nat.le_of_ble_eq_true rfl⟩ hS (by rintro q (h9 | h9) <;> (show sz ≤ q) <;> omega) (fun H locs hB1 oq1 hz1 hS => ?_)
  have hH := hH.kept (fun i hi => oq1 _ (hH.lt hi) (by rintro (h9 | h9) <;> (have b0 := hba i hi; have b1 := hg1; omega)))
  obtain ⟨z2, hG1⟩ := hB1
  rw [← yM_0] at hG1
  refine lv_astore_n (lv' := [(1, .ref ((yad sz (sz + 1)) 0)), (0, .ref (ad 0))]) hx hb dX9_copy_7 rfl hl (by decide) rfl (fun ls hl => ?_)
  refine lv_aload_n hx hb dX9_copy_8 rfl (lv_at hl 1 rfl) ?_
  refine z_gr (D := (dC, dI)) (cl := vwCl) (C := RX9) (T := TX9) (N := 24) (ci := 9) (k := 0) hx hb hts hinX9 hown hK hH (i := 0) yk_0 (by decide) rfl (by decide) rfl yr_0 (hts (.fieldLink RX9 11 "SteamfieldModel$Field" "blocks" "[[I") (by decide +kernel)) (fun _ h9 => h9) dX9_copy_9 ?_
  refine lv_aload_n hx hb dX9_copy_12 rfl (lv_at hl 0 rfl) ?_
  refine z_gr (D := (dC, dI)) (cl := vwCl) (C := RX9) (T := TX9) (N := 24) (ci := 9) (k := 0) hx hb hts hinX9 hown hK hG1 (i := 0) yk_0 (by decide) rfl (by decide) rfl yr_0 (hts (.fieldLink RX9 11 "SteamfieldModel$Field" "blocks" "[[I") (by decide +kernel)) (fun _ h9 => h9) dX9_copy_13 ?_
  refine y_cSv (D := (dC, dI)) (cl := vwCl) (tys := yt ca) (nw := zw_nest) (As := [.ref (ad 1), .ref ((yad sz (sz + 1)) 1)]) (rest := []) ⟨hx, hb, hml, hown, hts⟩ (m_X9_copy_b l dC dI ca ad hI (yad sz (sz + 1)) hI1 (fun i j hi hj => by have b0 := hba i hi; have b1 := hga1 j; omega)) (cwS 2 hts gX9_copy_X9_copy_ rfl rfl rfl (by decide +kernel) ⟨Nat.le_of_ble_eq_true rfl, Nat.le_of_ble_eq_true rfl⟩) ⟨hH, hG1⟩ hK hN hX zw_nest_ok rfl hl.1 rfl (Nat.le_of_ble_eq_true rfl) dX9_copy_16 ⟨Nat.le_of_ble_eq_true rfl, Nat.le_of_ble_eq_true rfl⟩ hS (by rintro q ⟨i, _, rfl⟩; exact hga1 i) (fun H locs hB1 oq1 hz1 hS => ?_)
  obtain ⟨hH, hG1⟩ := hB1
  refine lv_aload_n hx hb dX9_copy_19 rfl (lv_at hl 1 rfl) ?_
  refine z_gr (D := (dC, dI)) (cl := vwCl) (C := RX9) (T := TX9) (N := 24) (ci := 9) (k := 1) hx hb hts hinX9 hown hK hH (i := 0) yk_0 (by decide) rfl (by decide) rfl yr_1 (hts (.fieldLink RX9 16 "SteamfieldModel$Field" "faces" "[[I") (by decide +kernel)) (fun _ h9 => h9) dX9_copy_20 ?_
  refine lv_aload_n hx hb dX9_copy_23 rfl (lv_at hl 0 rfl) ?_
  refine z_gr (D := (dC, dI)) (cl := vwCl) (C := RX9) (T := TX9) (N := 24) (ci := 9) (k := 1) hx hb hts hinX9 hown hK hG1 (i := 0) yk_0 (by decide) rfl (by decide) rfl yr_1 (hts (.fieldLink RX9 16 "SteamfieldModel$Field" "faces" "[[I") (by decide +kernel)) (fun _ h9 => h9) dX9_copy_24 ?_
  refine y_cSv (D := (dC, dI)) (cl := vwCl) (tys := yt ca) (nw := zw_nest) (As := [.ref (ad 10), .ref ((yad sz (sz + 1)) 10)]) (rest := []) ⟨hx, hb, hml, hown, hts⟩ (m_X9_copy_f l dC dI ca ad hI (yad sz (sz + 1)) hI1 (fun i j hi hj => by have b0 := hba i hi; have b1 := hga1 j; omega)) (cwS 2 hts gX9_copy_X9_copy_ rfl rfl rfl (by decide +kernel) ⟨Nat.le_of_ble_eq_true rfl, Nat.le_of_ble_eq_true rfl⟩) ⟨hH, hG1⟩ hK hN hX zw_nest_ok rfl hl.1 rfl (Nat.le_of_ble_eq_true rfl) dX9_copy_27 ⟨Nat.le_of_ble_eq_true rfl, Nat.le_of_ble_eq_true rfl⟩ hS (by rintro q ⟨i, _, rfl⟩; exact hga1 i) (fun H locs hB1 oq1 hz1 hS => ?_)
  obtain ⟨hH, hG1⟩ := hB1
  refine lv_aload_n hx hb dX9_copy_30 rfl (lv_at hl 1 rfl) ?_
  refine z_gr (D := (dC, dI)) (cl := vwCl) (C := RX9) (T := TX9) (N := 24) (ci := 9) (k := 2) hx hb hts hinX9 hown hK hH (i := 0) yk_0 (by decide) rfl (by decide) rfl yr_2 (hts (.fieldLink RX9 19 "SteamfieldModel$Field" "wells" "[[I") (by decide +kernel)) (fun _ h9 => h9) dX9_copy_31 ?_
  refine lv_aload_n hx hb dX9_copy_34 rfl (lv_at hl 0 rfl) ?_
  refine z_gr (D := (dC, dI)) (cl := vwCl) (C := RX9) (T := TX9) (N := 24) (ci := 9) (k := 2) hx hb hts hinX9 hown hK hG1 (i := 0) yk_0 (by decide) rfl (by decide) rfl yr_2 (hts (.fieldLink RX9 19 "SteamfieldModel$Field" "wells" "[[I") (by decide +kernel)) (fun _ h9 => h9) dX9_copy_35 ?_
  refine y_cSv (D := (dC, dI)) (cl := vwCl) (tys := yt ca) (nw := zw_nest) (As := [.ref (ad 23), .ref ((yad sz (sz + 1)) 23)]) (rest := []) ⟨hx, hb, hml, hown, hts⟩ (m_X9_copy_w l dC dI ca ad hI (yad sz (sz + 1)) hI1 (fun i j hi hj => by have b0 := hba i hi; have b1 := hga1 j; omega)) (cwS 2 hts gX9_copy_X9_copy_ rfl rfl rfl (by decide +kernel) ⟨Nat.le_of_ble_eq_true rfl, Nat.le_of_ble_eq_true rfl⟩) ⟨hH, hG1⟩ hK hN hX zw_nest_ok rfl hl.1 rfl (Nat.le_of_ble_eq_true rfl) dX9_copy_38 ⟨Nat.le_of_ble_eq_true rfl, Nat.le_of_ble_eq_true rfl⟩ hS (by rintro q ⟨i, _, rfl⟩; exact hga1 i) (fun H locs hB1 oq1 hz1 hS => ?_)
  obtain ⟨hH, hG1⟩ := hB1
  refine lv_aload_n hx hb dX9_copy_41 rfl (lv_at hl 1 rfl) ?_
  refine z_gr (D := (dC, dI)) (cl := vwCl) (C := RX9) (T := TX9) (N := 24) (ci := 9) (k := 3) hx hb hts hinX9 hown hK hH (i := 0) yk_0 (by decide) rfl (by decide) rfl yr_3 (hts (.fieldLink RX9 22 "SteamfieldModel$Field" "springs" "[[I") (by decide +kernel)) (fun _ h9 => h9) dX9_copy_42 ?_
  refine lv_aload_n hx hb dX9_copy_45 rfl (lv_at hl 0 rfl) ?_
  refine z_gr (D := (dC, dI)) (cl := vwCl) (C := RX9) (T := TX9) (N := 24) (ci := 9) (k := 3) hx hb hts hinX9 hown hK hG1 (i := 0) yk_0 (by decide) rfl (by decide) rfl yr_3 (hts (.fieldLink RX9 22 "SteamfieldModel$Field" "springs" "[[I") (by decide +kernel)) (fun _ h9 => h9) dX9_copy_46 ?_
  refine y_cSv (D := (dC, dI)) (cl := vwCl) (tys := yt ca) (nw := zw_nest) (As := [.ref (ad 30), .ref ((yad sz (sz + 1)) 30)]) (rest := []) ⟨hx, hb, hml, hown, hts⟩ (m_X9_copy_s l dC dI ca ad hI (yad sz (sz + 1)) hI1 (fun i j hi hj => by have b0 := hba i hi; have b1 := hga1 j; omega)) (cwS 2 hts gX9_copy_X9_copy_ rfl rfl rfl (by decide +kernel) ⟨Nat.le_of_ble_eq_true rfl, Nat.le_of_ble_eq_true rfl⟩) ⟨hH, hG1⟩ hK hN hX zw_nest_ok rfl hl.1 rfl (Nat.le_of_ble_eq_true rfl) dX9_copy_49 ⟨Nat.le_of_ble_eq_true rfl, Nat.le_of_ble_eq_true rfl⟩ hS (by rintro q ⟨i, _, rfl⟩; exact hga1 i) (fun H locs hB1 oq1 hz1 hS => ?_)
  obtain ⟨hH, hG1⟩ := hB1
  refine lv_aload_n hx hb dX9_copy_52 rfl (lv_at hl 0 rfl) ?_
  refine lv_aload_n hx hb dX9_copy_53 rfl (lv_at hl 1 rfl) ?_
  refine z_gi (D := (dC, dI)) (cl := vwCl) (C := RX9) (T := TX9) (N := 24) (ci := 9) (k := 4) hx hb hts hinX9 hown hK hH (i := 0) yk_0 (by decide) rfl (by decide) rfl (hts (.fieldLink RX9 60 "SteamfieldModel$Field" "manyBlocks" "I") (by decide +kernel)) (fun _ h9 => h9) dX9_copy_54 ?_
  refine y_num (b := 0) rfl ?_
  refine zp_i (D := (dC, dI)) (cl := vwCl) (C := RX9) (T := TX9) (N := 24) (ci := 9) (k := 4) (ty := .int) hx hb hts hinX9 tyX9 tyX9_ok nmX9 hown hK hG1 hI1 hS (by rintro q ⟨i, _, rfl⟩; exact hga1 i) (i := 0) yk_0 (by decide) rfl (by decide) rfl (hts (.fieldLink RX9 60 "SteamfieldModel$Field" "manyBlocks" "I") (by decide +kernel)) (fun _ h9 => h9) rfl (by decide +kernel) rfl rfl dX9_copy_57 (fun H locs hG1 oq hS => ?_)
  rw [zu_same (show (yM 0) 0 4 = 0 from rfl)] at hG1
  have hH := hH.kept (fun i hi => oq _ (by have b0 := hba i hi; have b1 := hga1 0; have b2 := hg1; omega))
  refine lv_aload_n hx hb dX9_copy_60 rfl (lv_at hl 0 rfl) ?_
  refine lv_aload_n hx hb dX9_copy_61 rfl (lv_at hl 1 rfl) ?_
  refine z_gi (D := (dC, dI)) (cl := vwCl) (C := RX9) (T := TX9) (N := 24) (ci := 9) (k := 5) hx hb hts hinX9 hown hK hH (i := 0) yk_0 (by decide) rfl (by decide) rfl (hts (.fieldLink RX9 63 "SteamfieldModel$Field" "manyFaces" "I") (by decide +kernel)) (fun _ h9 => h9) dX9_copy_62 ?_
  refine y_num (b := 0) rfl ?_
  refine zp_i (D := (dC, dI)) (cl := vwCl) (C := RX9) (T := TX9) (N := 24) (ci := 9) (k := 5) (ty := .int) hx hb hts hinX9 tyX9 tyX9_ok nmX9 hown hK hG1 hI1 hS (by rintro q ⟨i, _, rfl⟩; exact hga1 i) (i := 0) yk_0 (by decide) rfl (by decide) rfl (hts (.fieldLink RX9 63 "SteamfieldModel$Field" "manyFaces" "I") (by decide +kernel)) (fun _ h9 => h9) rfl (by decide +kernel) rfl rfl dX9_copy_65 (fun H locs hG1 oq hS => ?_)
  rw [zu_same (show (yM 0) 0 5 = 0 from rfl)] at hG1
  have hH := hH.kept (fun i hi => oq _ (by have b0 := hba i hi; have b1 := hga1 0; have b2 := hg1; omega))
  refine lv_aload_n hx hb dX9_copy_68 rfl (lv_at hl 0 rfl) ?_
  refine lv_aload_n hx hb dX9_copy_69 rfl (lv_at hl 1 rfl) ?_
  refine z_gi (D := (dC, dI)) (cl := vwCl) (C := RX9) (T := TX9) (N := 24) (ci := 9) (k := 6) hx hb hts hinX9 hown hK hH (i := 0) yk_0 (by decide) rfl (by decide) rfl (hts (.fieldLink RX9 66 "SteamfieldModel$Field" "manyWells" "I") (by decide +kernel)) (fun _ h9 => h9) dX9_copy_70 ?_
  refine y_num (b := 0) rfl ?_
  refine zp_i (D := (dC, dI)) (cl := vwCl) (C := RX9) (T := TX9) (N := 24) (ci := 9) (k := 6) (ty := .int) hx hb hts hinX9 tyX9 tyX9_ok nmX9 hown hK hG1 hI1 hS (by rintro q ⟨i, _, rfl⟩; exact hga1 i) (i := 0) yk_0 (by decide) rfl (by decide) rfl (hts (.fieldLink RX9 66 "SteamfieldModel$Field" "manyWells" "I") (by decide +kernel)) (fun _ h9 => h9) rfl (by decide +kernel) rfl rfl dX9_copy_73 (fun H locs hG1 oq hS => ?_)
  rw [zu_same (show (yM 0) 0 6 = 0 from rfl)] at hG1
  have hH := hH.kept (fun i hi => oq _ (by have b0 := hba i hi; have b1 := hga1 0; have b2 := hg1; omega))
  refine lv_aload_n hx hb dX9_copy_76 rfl (lv_at hl 0 rfl) ?_
  refine lv_aload_n hx hb dX9_copy_77 rfl (lv_at hl 1 rfl) ?_
  refine z_gi (D := (dC, dI)) (cl := vwCl) (C := RX9) (T := TX9) (N := 24) (ci := 9) (k := 7) hx hb hts hinX9 hown hK hH (i := 0) yk_0 (by decide) rfl (by decide) rfl (hts (.fieldLink RX9 69 "SteamfieldModel$Field" "manySprings" "I") (by decide +kernel)) (fun _ h9 => h9) dX9_copy_78 ?_
  refine y_num (b := 0) rfl ?_
  refine zp_i (D := (dC, dI)) (cl := vwCl) (C := RX9) (T := TX9) (N := 24) (ci := 9) (k := 7) (ty := .int) hx hb hts hinX9 tyX9 tyX9_ok nmX9 hown hK hG1 hI1 hS (by rintro q ⟨i, _, rfl⟩; exact hga1 i) (i := 0) yk_0 (by decide) rfl (by decide) rfl (hts (.fieldLink RX9 69 "SteamfieldModel$Field" "manySprings" "I") (by decide +kernel)) (fun _ h9 => h9) rfl (by decide +kernel) rfl rfl dX9_copy_81 (fun H locs hG1 oq hS => ?_)
  rw [zu_same (show (yM 0) 0 7 = 0 from rfl)] at hG1
  have hH := hH.kept (fun i hi => oq _ (by have b0 := hba i hi; have b1 := hga1 0; have b2 := hg1; omega))
  refine lv_aload_n hx hb dX9_copy_84 rfl (lv_at hl 1 rfl) ?_
  refine z_gr (D := (dC, dI)) (cl := vwCl) (C := RX9) (T := TX9) (N := 24) (ci := 9) (k := 8) hx hb hts hinX9 hown hK hH (i := 0) yk_0 (by decide) rfl (by decide) rfl yr_8 (hts (.fieldLink RX9 25 "SteamfieldModel$Field" "pond" "[I") (by decide +kernel)) (fun _ h9 => h9) dX9_copy_85 ?_
  refine lv_iconst (v := 0) hx hb dX9_copy_88 (by decide) ?_
  refine lv_aload_n hx hb dX9_copy_89 rfl (lv_at hl 0 rfl) ?_
  refine z_gr (D := (dC, dI)) (cl := vwCl) (C := RX9) (T := TX9) (N := 24) (ci := 9) (k := 8) hx hb hts hinX9 hown hK hG1 (i := 0) yk_0 (by decide) rfl (by decide) rfl yr_8 (hts (.fieldLink RX9 25 "SteamfieldModel$Field" "pond" "[I") (by decide +kernel)) (fun _ h9 => h9) dX9_copy_90 ?_
  refine lv_iconst (v := 0) hx hb dX9_copy_93 (by decide) ?_
  refine lv_bipush (v := 6) hx hb dX9_copy_94 (by decide) ?_
  refine y_cp (t0 := 0) (n := 6) (i := 34) (j := 34) hx hb (hml.trans hl.1.symm) hown (hts (.methodLink RX9 72 arraycopyName) (by decide +kernel)) (hts (.native arraycopyName) (by decide +kernel)) (hts (.static arraycopyName) (by decide +kernel)) (hts (.initialized "java/lang/System") (by decide +kernel)) hK hG1 hH hI1 hS (by rintro q ⟨i, _, rfl⟩; exact hga1 i) yk_34 yk_34 rfl rfl (by decide) (by decide) (by decide) (Nat.le_of_ble_eq_true rfl) (Nat.le_of_ble_eq_true rfl) dX9_copy_96 (fun H locs hG1 oq hS => ?_)
  have hH := hH.kept (fun i hi => oq _ (by have b0 := hba i hi; have b1 := hga1 34; have b2 := hg1; omega))
  refine lv_aload_n hx hb dX9_copy_99 rfl (lv_at hl 1 rfl) ?_
  refine z_gr (D := (dC, dI)) (cl := vwCl) (C := RX9) (T := TX9) (N := 24) (ci := 9) (k := 13) hx hb hts hinX9 hown hK hH (i := 0) yk_0 (by decide) rfl (by decide) rfl yr_13 (hts (.fieldLink RX9 41 "SteamfieldModel$Field" "shocks" "[I") (by decide +kernel)) (fun _ h9 => h9) dX9_copy_100 ?_
  refine lv_iconst (v := 0) hx hb dX9_copy_103 (by decide) ?_
  refine lv_aload_n hx hb dX9_copy_104 rfl (lv_at hl 0 rfl) ?_
  refine z_gr (D := (dC, dI)) (cl := vwCl) (C := RX9) (T := TX9) (N := 24) (ci := 9) (k := 13) hx hb hts hinX9 hown hK hG1 (i := 0) yk_0 (by decide) rfl (by decide) rfl yr_13 (hts (.fieldLink RX9 41 "SteamfieldModel$Field" "shocks" "[I") (by decide +kernel)) (fun _ h9 => h9) dX9_copy_105 ?_
  refine lv_iconst (v := 0) hx hb dX9_copy_108 (by decide) ?_
  refine lv_iconst (v := 4) hx hb dX9_copy_109 (by decide) ?_
  refine y_cp (t0 := 0) (n := 4) (i := 39) (j := 39) hx hb (hml.trans hl.1.symm) hown (hts (.methodLink RX9 72 arraycopyName) (by decide +kernel)) (hts (.native arraycopyName) (by decide +kernel)) (hts (.static arraycopyName) (by decide +kernel)) (hts (.initialized "java/lang/System") (by decide +kernel)) hK hG1 hH hI1 hS (by rintro q ⟨i, _, rfl⟩; exact hga1 i) yk_39 yk_39 rfl rfl (by decide) (by decide) (by decide) (Nat.le_of_ble_eq_true rfl) (Nat.le_of_ble_eq_true rfl) dX9_copy_110 (fun H locs hG1 oq hS => ?_)
  have hH := hH.kept (fun i hi => oq _ (by have b0 := hba i hi; have b1 := hga1 39; have b2 := hg1; omega))
  refine lv_aload_n hx hb dX9_copy_113 rfl (lv_at hl 1 rfl) ?_
  refine z_gr (D := (dC, dI)) (cl := vwCl) (C := RX9) (T := TX9) (N := 24) (ci := 9) (k := 12) hx hb hts hinX9 hown hK hH (i := 0) yk_0 (by decide) rfl (by decide) rfl yr_12 (hts (.fieldLink RX9 38 "SteamfieldModel$Field" "coins" "[I") (by decide +kernel)) (fun _ h9 => h9) dX9_copy_114 ?_
  refine lv_iconst (v := 0) hx hb dX9_copy_117 (by decide) ?_
  refine lv_aload_n hx hb dX9_copy_118 rfl (lv_at hl 0 rfl) ?_
  refine z_gr (D := (dC, dI)) (cl := vwCl) (C := RX9) (T := TX9) (N := 24) (ci := 9) (k := 12) hx hb hts hinX9 hown hK hG1 (i := 0) yk_0 (by decide) rfl (by decide) rfl yr_12 (hts (.fieldLink RX9 38 "SteamfieldModel$Field" "coins" "[I") (by decide +kernel)) (fun _ h9 => h9) dX9_copy_119 ?_
  refine lv_iconst (v := 0) hx hb dX9_copy_122 (by decide) ?_
  refine lv_iconst (v := 2) hx hb dX9_copy_123 (by decide) ?_
  refine y_cp (t0 := 0) (n := 2) (i := 38) (j := 38) hx hb (hml.trans hl.1.symm) hown (hts (.methodLink RX9 72 arraycopyName) (by decide +kernel)) (hts (.native arraycopyName) (by decide +kernel)) (hts (.static arraycopyName) (by decide +kernel)) (hts (.initialized "java/lang/System") (by decide +kernel)) hK hG1 hH hI1 hS (by rintro q ⟨i, _, rfl⟩; exact hga1 i) yk_38 yk_38 rfl rfl (by decide) (by decide) (by decide) (Nat.le_of_ble_eq_true rfl) (Nat.le_of_ble_eq_true rfl) dX9_copy_124 (fun H locs hG1 oq hS => ?_)
  have hH := hH.kept (fun i hi => oq _ (by have b0 := hba i hi; have b1 := hga1 38; have b2 := hg1; omega))
  refine lv_aload_n hx hb dX9_copy_127 rfl (lv_at hl 0 rfl) ?_
  refine lv_aload_n hx hb dX9_copy_128 rfl (lv_at hl 1 rfl) ?_
  refine z_gi (D := (dC, dI)) (cl := vwCl) (C := RX9) (T := TX9) (N := 24) (ci := 9) (k := 14) hx hb hts hinX9 hown hK hH (i := 0) yk_0 (by decide) rfl (by decide) rfl (hts (.fieldLink RX9 44 "SteamfieldModel$Field" "size" "I") (by decide +kernel)) (fun _ h9 => h9) dX9_copy_129 ?_
  refine y_num (b := 20) rfl ?_
  refine zp_i (D := (dC, dI)) (cl := vwCl) (C := RX9) (T := TX9) (N := 24) (ci := 9) (k := 14) (ty := .int) hx hb hts hinX9 tyX9 tyX9_ok nmX9 hown hK hG1 hI1 hS (by rintro q ⟨i, _, rfl⟩; exact hga1 i) (i := 0) yk_0 (by decide) rfl (by decide) rfl (hts (.fieldLink RX9 44 "SteamfieldModel$Field" "size" "I") (by decide +kernel)) (fun _ h9 => h9) rfl (by decide +kernel) rfl rfl dX9_copy_132 (fun H locs hG1 oq hS => ?_)
  rw [zu_same (show (yM 0) 0 14 = 20 from rfl)] at hG1
  have hH := hH.kept (fun i hi => oq _ (by have b0 := hba i hi; have b1 := hga1 0; have b2 := hg1; omega))
  refine lv_aload_n hx hb dX9_copy_135 rfl (lv_at hl 0 rfl) ?_
  refine lv_aload_n hx hb dX9_copy_136 rfl (lv_at hl 1 rfl) ?_
  refine z_gi (D := (dC, dI)) (cl := vwCl) (C := RX9) (T := TX9) (N := 24) (ci := 9) (k := 15) hx hb hts hinX9 hown hK hH (i := 0) yk_0 (by decide) rfl (by decide) rfl (hts (.fieldLink RX9 78 "SteamfieldModel$Field" "need" "I") (by decide +kernel)) (fun _ h9 => h9) dX9_copy_137 ?_
  refine y_num (b := 0) rfl ?_
  refine zp_i (D := (dC, dI)) (cl := vwCl) (C := RX9) (T := TX9) (N := 24) (ci := 9) (k := 15) (ty := .int) hx hb hts hinX9 tyX9 tyX9_ok nmX9 hown hK hG1 hI1 hS (by rintro q ⟨i, _, rfl⟩; exact hga1 i) (i := 0) yk_0 (by decide) rfl (by decide) rfl (hts (.fieldLink RX9 78 "SteamfieldModel$Field" "need" "I") (by decide +kernel)) (fun _ h9 => h9) rfl (by decide +kernel) rfl rfl dX9_copy_140 (fun H locs hG1 oq hS => ?_)
  rw [zu_same (show (yM 0) 0 15 = 0 from rfl)] at hG1
  have hH := hH.kept (fun i hi => oq _ (by have b0 := hba i hi; have b1 := hga1 0; have b2 := hg1; omega))
  refine lv_aload_n hx hb dX9_copy_143 rfl (lv_at hl 0 rfl) ?_
  refine lv_aload_n hx hb dX9_copy_144 rfl (lv_at hl 1 rfl) ?_
  refine z_gi (D := (dC, dI)) (cl := vwCl) (C := RX9) (T := TX9) (N := 24) (ci := 9) (k := 16) hx hb hts hinX9 hown hK hH (i := 0) yk_0 (by decide) rfl (by decide) rfl (hts (.fieldLink RX9 48 "SteamfieldModel$Field" "runs" "Z") (by decide +kernel)) (fun _ h9 => h9) dX9_copy_145 ?_
  refine y_num (b := 1) rfl ?_
  refine zp_i (D := (dC, dI)) (cl := vwCl) (C := RX9) (T := TX9) (N := 24) (ci := 9) (k := 16) (ty := .boolean) hx hb hts hinX9 tyX9 tyX9_ok nmX9 hown hK hG1 hI1 hS (by rintro q ⟨i, _, rfl⟩; exact hga1 i) (i := 0) yk_0 (by decide) rfl (by decide) rfl (hts (.fieldLink RX9 48 "SteamfieldModel$Field" "runs" "Z") (by decide +kernel)) (fun _ h9 => h9) rfl (by decide +kernel) (by decide) (by decide) dX9_copy_148 (fun H locs hG1 oq hS => ?_)
  rw [zu_same (show (yM 0) 0 16 = 1 from rfl)] at hG1
  have hH := hH.kept (fun i hi => oq _ (by have b0 := hba i hi; have b1 := hga1 0; have b2 := hg1; omega))
  refine lv_aload_n hx hb dX9_copy_151 rfl (lv_at hl 0 rfl) ?_
  refine lv_aload_n hx hb dX9_copy_152 rfl (lv_at hl 1 rfl) ?_
  refine z_gi (D := (dC, dI)) (cl := vwCl) (C := RX9) (T := TX9) (N := 24) (ci := 9) (k := 17) hx hb hts hinX9 hown hK hH (i := 0) yk_0 (by decide) rfl (by decide) rfl (hts (.fieldLink RX9 81 "SteamfieldModel$Field" "now" "I") (by decide +kernel)) (fun _ h9 => h9) dX9_copy_153 ?_
  refine y_num (b := 0) rfl ?_
  refine zp_i (D := (dC, dI)) (cl := vwCl) (C := RX9) (T := TX9) (N := 24) (ci := 9) (k := 17) (ty := .int) hx hb hts hinX9 tyX9 tyX9_ok nmX9 hown hK hG1 hI1 hS (by rintro q ⟨i, _, rfl⟩; exact hga1 i) (i := 0) yk_0 (by decide) rfl (by decide) rfl (hts (.fieldLink RX9 81 "SteamfieldModel$Field" "now" "I") (by decide +kernel)) (fun _ h9 => h9) rfl (by decide +kernel) rfl rfl dX9_copy_156 (fun H locs hG1 oq hS => ?_)
  rw [zu_same (show (yM 0) 0 17 = 0 from rfl)] at hG1
  have hH := hH.kept (fun i hi => oq _ (by have b0 := hba i hi; have b1 := hga1 0; have b2 := hg1; omega))
  refine lv_aload_n hx hb dX9_copy_159 rfl (lv_at hl 0 rfl) ?_
  refine W.widen (k := 41) (n := 254) (Nat.le_of_ble_eq_true rfl) (Nat.le_of_ble_eq_true rfl) ?_
  exact W.aret hx hb hr (Or.inl ⟨_, rfl⟩) (Or.inr ⟨_, rfl⟩) (fun t ht hW => ⟨⟨(), _, rfl, trivial, rfl, z_to (B := (fun H => yW dC dI ca ad (yM 0) H ∧ yW dC dI ca (yad sz (sz + 1)) (yM 0) H)) ht ⟨hH, hG1⟩⟩, hS.F ht⟩) hS.2.2 dX9_copy_160
