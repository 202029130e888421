set_option maxHeartbeats 4000000 in
set_option maxRecDepth 100000 in
/-- Picture.pixelIndex -/
theorem td_pixelIndex (l : Launch) (dC : Nat → ClassId) (dI : Nat → Nat → Nat) (cI cJ cZ : ClassId) (qU : Nat) (cC : Nat) (cN : Nat) (cD : Nat) (qT : Nat) (qH : Nat) (w : Nat) (h : Nat) (ta : Nat) (bg : Int32) (bn : Int32) (dt : Int32) (lf : Int32) (tp : Int32) (rt : Int32) (bm : Int32) (i : Nat) (j : Nat) : Met l yX2_pixelIndex wsX2_pixelIndex ({ frames := 0, cells := 0, slots := 0, locals := 0 }) (td_RP (dC, dI) vwCl (td_T cI cJ cZ) td_nl [(qU, .inr (2, [.int (nI w), .int (nI h), .int (nI ta), .ref cC, .ref cN, .ref cD, .ref qT, .ref qH, .int bg, .int bn, .int dt, .int lf, .int tp, .int rt, .int bm]))] [.ref qU, .int (nI i), .int (nI j)]) (vp_Si (fun r => r = nI (j * w + i))) 0 0 (fun _ => False) := by
  refine Met.ofW (cc := cX2_pixelIndex) (maxL := 3) (ret := (some .int)) (by decide) rfl ?_
  intro p e s m args below meth c s₁ B hml hv
  obtain ⟨rfl, hP, hK, hZ⟩ := hv
  have hx := B.exec
  have hb := B.bytes
  have hr := B.returns
  have hts := atoms_spec (ws := wsX2_pixelIndex) B.pre
  have hown : s.vm.findClass RX2 = some m.cls := findClass_of_methodNamed B.named
  have hlocks := B.notSynchronized
  have hP : va_P (dC, dI) vwCl [(qU, .inr (2, [.int (nI w), .int (nI h), .int (nI ta), .ref cC, .ref cN, .ref cD, .ref qT, .ref qH, .int bg, .int bn, .int dt, .int lf, .int tp, .int rt, .int bm]))] s.heap := hP
  have hl := lv_entry ([.ref qU, .int (nI i), .int (nI j)]) (n := 3) (Nat.le_of_ble_eq_true rfl)
  rw [lg_entry_eq]
  generalize (lg_sl ([.ref qU, .int (nI i), .int (nI j)]) ++ List.replicate (3 - (lg_sl ([.ref qU, .int (nI i), .int (nI j)])).length) Slot.unset).toArray = ls at hl ⊢
  have hl : lv_has ls 3 [(0, .ref qU), (1, .int (nI i)), (2, .int (nI j))] := hl
  refine lv_iload_n hx hb dX2_pixelIndex_0 rfl (lv_at hl 2 rfl) ?_
  refine lv_aload_n hx hb dX2_pixelIndex_1 rfl (lv_at hl 0 rfl) ?_
  refine va_get (D := (dC, dI)) (ci := 2) (v := .int (nI w)) (C := RX2) (T := TX2) (N := 15) hx hb hts td_fX2 hown hK hP 0 rfl rfl 0 (by decide) (hts (.fieldLink RX2 48 "TileDesk$Picture" "width" "I") (td_i3 (List.mem_of_getElem? (i := 4) rfl))) (fun _ h9 => h9) rfl dX2_pixelIndex_2 ?_
  refine lv_imul hx hb dX2_pixelIndex_5 ?_
  refine td_ti (nI (j * w)) (pk_mul j w) ?_
  refine lv_iload_n hx hb dX2_pixelIndex_6 rfl (lv_at hl 1 rfl) ?_
  refine lv_iadd hx hb dX2_pixelIndex_7 ?_
  refine td_ti (nI (j * w + i)) (nI_add (j * w) i) ?_
  exact td_rri hx hb hr rfl hlocks (rfl) dX2_pixelIndex_8
set_option maxHeartbeats 4000000 in
set_option maxRecDepth 100000 in
/-- Picture.isShown -/
theorem td_isShown (l : Launch) (dC : Nat → ClassId) (dI : Nat → Nat → Nat) (cI cJ cZ : ClassId) (qU : Nat) (cC : Nat) (cN : Nat) (cD : Nat) (qT : Nat) (qH : Nat) (w : Nat) (h : Nat) (ta : Nat) (bg : Int32) (bn : Int32) (dt : Int32) (lf : Int32) (tp : Int32) (rt : Int32) (bm : Int32) (nd : Nat) (fD : Nat → Int32) (x : Int32) (y : Int32) (hw1 : 8 ≤ w) (hw2 : w ≤ 48) (hh1 : 8 ≤ h) (hh2 : h ≤ 48) (hta : ta = (w + 7) / 8) (hnd : nd = ta * ((h + 7) / 8)) : Met l yX2_isShown wsX2_isShown ({ frames := 1, cells := 0, slots := 0, locals := 22 }) (td_RP (dC, dI) vwCl (td_T cI cJ cZ) td_nl [(qU, .inr (2, [.int (nI w), .int (nI h), .int (nI ta), .ref cC, .ref cN, .ref cD, .ref qT, .ref qH, .int bg, .int bn, .int dt, .int lf, .int tp, .int rt, .int bm])), (cD, .inl (cZ, nd, .inl fD))] [.ref qU, .int x, .int y]) (vp_Si (fun r => r = td_bz (td_sh x y w h ta fD))) 0 0 (fun _ => False) := by
  refine Met.ofW (cc := cX2_isShown) (maxL := 3) (ret := (some .boolean)) (by decide) rfl ?_
  intro p e s m args below meth c s₁ B hml hv
  obtain ⟨rfl, hP, hK, hZ⟩ := hv
  have hx := B.exec
  have hb := B.bytes
  have hr := B.returns
  have hts := atoms_spec (ws := wsX2_isShown) B.pre
  have hown : s.vm.findClass RX2 = some m.cls := findClass_of_methodNamed B.named
  have hlocks := B.notSynchronized
  have hP : va_P (dC, dI) vwCl [(qU, .inr (2, [.int (nI w), .int (nI h), .int (nI ta), .ref cC, .ref cN, .ref cD, .ref qT, .ref qH, .int bg, .int bn, .int dt, .int lf, .int tp, .int rt, .int bm])), (cD, .inl (cZ, nd, .inl fD))] s.heap := hP
  have hl := lv_entry ([.ref qU, .int x, .int y]) (n := 3) (Nat.le_of_ble_eq_true rfl)
  rw [lg_entry_eq]
  generalize (lg_sl ([.ref qU, .int x, .int y]) ++ List.replicate (3 - (lg_sl ([.ref qU, .int x, .int y])).length) Slot.unset).toArray = ls at hl ⊢
  have hl : lv_has ls 3 [(0, .ref qU), (1, .int x), (2, .int y)] := hl
  have hnd6 : nd ≤ 36 := by rw [hnd]; exact td_tt (by omega) (by omega)
  refine lv_iload_n hx hb dX2_isShown_0 rfl (lv_at hl 1 rfl) ?_
  refine lv_iconst (v := 0) hx hb dX2_isShown_1 (by decide) ?_
  refine lv_aload_n hx hb dX2_isShown_2 rfl (lv_at hl 0 rfl) ?_
  refine va_get (D := (dC, dI)) (ci := 2) (v := .int (nI w)) (C := RX2) (T := TX2) (N := 15) hx hb hts td_fX2 hown hK hP 0 rfl rfl 0 (by decide) (hts (.fieldLink RX2 48 "TileDesk$Picture" "width" "I") (td_i3 (List.mem_of_getElem? (i := 4) rfl))) (fun _ h9 => h9) rfl dX2_isShown_3 ?_
  refine lv_iconst (v := 1) hx hb dX2_isShown_6 (by decide) ?_
  refine lv_isub hx hb dX2_isShown_7 ?_
  refine td_ti (nI (w - 1)) (pk_sub (b := 1) (by omega)) ?_
  refine td_csi (va_runSN (As := [.int x, .int 0, .int (nI (w - 1))]) (rest := []) ⟨hx, hb, hml, hown, hts⟩ (td_isWithin l dC dI cI cJ cZ x 0 (nI (w - 1))) (⟨va_cnB 3 hts (td_gC (td_i4 (List.mem_of_getElem? (i := 5) rfl))) rfl rfl rfl (hZ.2 _ (List.mem_of_getElem? (i := 18) rfl)) (hts (.initialized RX3) (td_i1 (List.mem_of_getElem? (i := 1) rfl))) (by decide +kernel) ⟨(Nat.le_of_ble_eq_true rfl), (Nat.le_of_ble_eq_true rfl)⟩, (hts (.static yX3_isWithin) (td_i4 (List.mem_of_getElem? (i := 4) rfl))), trivial⟩) (td_pRS hK hZ hP [] rfl) rfl rfl hl.1 rfl (lv_room (Nat.le_of_ble_eq_true rfl)) dX2_isShown_8 ⟨Nat.zero_le _, Nat.zero_le _⟩) ?_
  refine td_ifeq (tgt := 54) hx hb dX2_isShown_11 (by decide) (fun c11 => ?_) (fun c11 => ?_)
  · refine lv_iconst (v := 0) hx hb dX2_isShown_54 (by decide) ?_
    exact td_rri hx hb hr rfl hlocks (by rw [td_bz0 (fun z => c11 z.1)]) dX2_isShown_55
  · obtain ⟨X, hX, eX⟩ := td_nat c11 (by omega)
    refine lv_iload_n hx hb dX2_isShown_14 rfl (lv_at hl 2 rfl) ?_
    refine lv_iconst (v := 0) hx hb dX2_isShown_15 (by decide) ?_
    refine lv_aload_n hx hb dX2_isShown_16 rfl (lv_at hl 0 rfl) ?_
    refine va_get (D := (dC, dI)) (ci := 2) (v := .int (nI h)) (C := RX2) (T := TX2) (N := 15) hx hb hts td_fX2 hown hK hP 0 rfl rfl 1 (by decide) (hts (.fieldLink RX2 51 "TileDesk$Picture" "height" "I") (td_i3 (List.mem_of_getElem? (i := 5) rfl))) (fun _ h9 => h9) rfl dX2_isShown_17 ?_
    refine lv_iconst (v := 1) hx hb dX2_isShown_20 (by decide) ?_
    refine lv_isub hx hb dX2_isShown_21 ?_
    refine td_ti (nI (h - 1)) (pk_sub (b := 1) (by omega)) ?_
    refine td_csi (va_runSN (As := [.int y, .int 0, .int (nI (h - 1))]) (rest := []) ⟨hx, hb, hml, hown, hts⟩ (td_isWithin l dC dI cI cJ cZ y 0 (nI (h - 1))) (⟨va_cnB 3 hts (td_gC (td_i4 (List.mem_of_getElem? (i := 5) rfl))) rfl rfl rfl (hZ.2 _ (List.mem_of_getElem? (i := 18) rfl)) (hts (.initialized RX3) (td_i1 (List.mem_of_getElem? (i := 1) rfl))) (by decide +kernel) ⟨(Nat.le_of_ble_eq_true rfl), (Nat.le_of_ble_eq_true rfl)⟩, (hts (.static yX3_isWithin) (td_i4 (List.mem_of_getElem? (i := 4) rfl))), trivial⟩) (td_pRS hK hZ hP [] rfl) rfl rfl hl.1 rfl (lv_room (Nat.le_of_ble_eq_true rfl)) dX2_isShown_22 ⟨Nat.zero_le _, Nat.zero_le _⟩) ?_
    refine td_ifeq (tgt := 54) hx hb dX2_isShown_25 (by decide) (fun c25 => ?_) (fun c25 => ?_)
    · refine lv_iconst (v := 0) hx hb dX2_isShown_54 (by decide) ?_
      exact td_rri hx hb hr rfl hlocks (by rw [td_bz0 (fun z => c25 z.2.1)]) dX2_isShown_55
    · obtain ⟨Y, hY, eY⟩ := td_nat c25 (by omega)
      refine lv_aload_n hx hb dX2_isShown_28 rfl (lv_at hl 0 rfl) ?_
      refine va_get (D := (dC, dI)) (ci := 2) (v := .ref cD) (C := RX2) (T := TX2) (N := 15) hx hb hts td_fX2 hown hK hP 0 rfl rfl 5 (by decide) (hts (.fieldLink RX2 64 "TileDesk$Picture" "done" "[Z") (td_i3 (List.mem_of_getElem? (i := 9) rfl))) (fun _ h9 => h9) rfl dX2_isShown_29 ?_
      refine lv_iload_n hx hb dX2_isShown_32 rfl (lv_at hl 2 rfl) ?_
      refine lv_bipush (v := 8) hx hb dX2_isShown_33 (by decide) ?_
      refine lv_idiv hx hb dX2_isShown_35 (by decide) ?_
      refine td_ti (nI (Y / 8)) (td_div8 eY (by omega)) ?_
      refine lv_aload_n hx hb dX2_isShown_36 rfl (lv_at hl 0 rfl) ?_
      refine va_get (D := (dC, dI)) (ci := 2) (v := .int (nI ta)) (C := RX2) (T := TX2) (N := 15) hx hb hts td_fX2 hown hK hP 0 rfl rfl 2 (by decide) (hts (.fieldLink RX2 54 "TileDesk$Picture" "tilesAcross" "I") (td_i3 (List.mem_of_getElem? (i := 6) rfl))) (fun _ h9 => h9) rfl dX2_isShown_37 ?_
      refine lv_imul hx hb dX2_isShown_40 ?_
      refine td_ti (nI ((Y / 8) * ta)) (pk_mul (Y / 8) ta) ?_
      refine lv_iload_n hx hb dX2_isShown_41 rfl (lv_at hl 1 rfl) ?_
      refine lv_bipush (v := 8) hx hb dX2_isShown_42 (by decide) ?_
      refine lv_idiv hx hb dX2_isShown_44 (by decide) ?_
      refine td_ti (nI (X / 8)) (td_div8 eX (by omega)) ?_
      refine lv_iadd hx hb dX2_isShown_45 ?_
      refine td_ti (nI ((Y / 8) * ta + (X / 8))) (nI_add ((Y / 8) * ta) (X / 8)) ?_
      refine td_zald hx hb hK hP 1 2 ((Y / 8) * ta + (X / 8)) rfl rfl rfl (by rw [hnd]; exact td_tix (by omega) (by omega)) (by omega) dX2_isShown_46 ?_
      refine lv_if_eq (tgt := 54) hx hb dX2_isShown_47 (by decide) (fun c47 => ?_) (fun c47 => ?_)
      · refine lv_iconst (v := 0) hx hb dX2_isShown_54 (by decide) ?_
        exact td_rri hx hb hr rfl hlocks (by rw [td_bz0 (fun z => z.2.2 (by rw [td_tn eX (by omega), td_tn eY (by omega)]; exact c47))]) dX2_isShown_55
      · refine lv_iconst (v := 1) hx hb dX2_isShown_50 (by decide) ?_
        refine lv_goto (tgt := 55) hx hb dX2_isShown_51 (by decide) ?_
        exact td_rri hx hb hr rfl hlocks (by rw [td_bz1 (show td_sh x y w h ta fD from ⟨c11, c25, by rw [td_tn eX (by omega), td_tn eY (by omega)]; exact c47⟩)]) dX2_isShown_55
set_option maxHeartbeats 4000000 in
set_option maxRecDepth 100000 in
/-- Picture.frameTile -/
theorem td_frameTile (l : Launch) (dC : Nat → ClassId) (dI : Nat → Nat → Nat) (cI cJ cZ : ClassId) (sz : Nat) (qU : Nat) (cC : Nat) (cN : Nat) (cD : Nat) (qT : Nat) (qH : Nat) (w : Nat) (h : Nat) (ta : Nat) (bg : Int32) (bn : Int32) (dt : Int32) (lf : Int32) (tp : Int32) (rt : Int32) (bm : Int32) (k : Nat) (hta1 : 0 < ta) (hta2 : ta ≤ 6) (hk : k < 36) (hw1 : 8 ≤ w) (hw2 : w ≤ 48) (hh1 : 8 ≤ h) (hh2 : h ≤ 48) : Met l yX2_frameTile wsX2_frameTile ({ frames := 2, cells := 0, slots := 0, locals := 48 }) (td_WP (dC, dI) vwCl (td_T cI cJ cZ) td_nl [(qU, .inr (2, [.int (nI w), .int (nI h), .int (nI ta), .ref cC, .ref cN, .ref cD, .ref qT, .ref qH, .int bg, .int bn, .int dt, .int lf, .int tp, .int rt, .int bm]))] sz [.ref qU, .int (nI k)]) (va_Qv (S := Unit) (fun u => True) (td_B (dC, dI) vwCl (td_T cI cJ cZ) (va_A [(qU, .inr (2, [.int (nI w), .int (nI h), .int (nI ta), .ref cC, .ref cN, .ref cD, .ref qT, .ref qH, .int bg, .int bn, .int dt, .int lf, .int tp, .int rt, .int bm]))] sz) (fun (u : Unit) => [(qU, .inr (2, [.int (nI w), .int (nI h), .int (nI ta), .ref cC, .ref cN, .ref cD, .ref qT, .ref qH, .int bg, .int bn, .int dt, .int (nI (k % ta * 8)), .int (nI (k / ta * 8)), .int (nI (if k % ta * 8 + 8 < w then k % ta * 8 + 8 else w)), .int (nI (if k / ta * 8 + 8 < h then k / ta * 8 + 8 else h))]))])) (va_A [(qU, .inr (2, [.int (nI w), .int (nI h), .int (nI ta), .ref cC, .ref cN, .ref cD, .ref qT, .ref qH, .int bg, .int bn, .int dt, .int lf, .int tp, .int rt, .int bm]))] sz)) 0 0 (va_A [(qU, .inr (2, [.int (nI w), .int (nI h), .int (nI ta), .ref cC, .ref cN, .ref cD, .ref qT, .ref qH, .int bg, .int bn, .int dt, .int lf, .int tp, .int rt, .int bm]))] sz) := by
  refine Met.ofW (cc := cX2_frameTile) (maxL := 4) (ret := none) (by decide) rfl ?_
  intro p e s m args below meth c s₁ B hml hv
  obtain ⟨rfl, hsz, hP, hK, hZ, hD0⟩ := hv
  have hx := B.exec
  have hb := B.bytes
  have hr := B.returns
  have hts := atoms_spec (ws := wsX2_frameTile) B.pre
  have hown : s.vm.findClass RX2 = some m.cls := findClass_of_methodNamed B.named
  have hlocks := B.notSynchronized
  subst hsz
  have hD := hD0.self (sz := s.heap.size)
  generalize hAe : va_A [(qU, .inr (2, [.int (nI w), .int (nI h), .int (nI ta), .ref cC, .ref cN, .ref cD, .ref qT, .ref qH, .int bg, .int bn, .int dt, .int lf, .int tp, .int rt, .int bm]))] s.heap.size = A at hD ⊢
  have hA : ∀ q : Nat, s.heap.size ≤ q → A q := fun q h => by rw [← hAe]; exact Or.inr h
  have hS : va_S A s.heap s.heap [] := va_S.rf
  have hP : va_P (dC, dI) vwCl [(qU, .inr (2, [.int (nI w), .int (nI h), .int (nI ta), .ref cC, .ref cN, .ref cD, .ref qT, .ref qH, .int bg, .int bn, .int dt, .int lf, .int tp, .int rt, .int bm]))] s.heap := hP
  have hl := lv_entry ([.ref qU, .int (nI k)]) (n := 4) (Nat.le_of_ble_eq_true rfl)
  rw [lg_entry_eq]
  generalize (lg_sl ([.ref qU, .int (nI k)]) ++ List.replicate (4 - (lg_sl ([.ref qU, .int (nI k)])).length) Slot.unset).toArray = ls at hl ⊢
  have hl : lv_has ls 4 [(0, .ref qU), (1, .int (nI k))] := hl
  have hdm := Nat.div_add_mod' k ta
  have hml2 := Nat.mod_lt k hta1
  have hdl : k / ta ≤ k := Nat.div_le_self k ta
  refine lv_iload_n hx hb dX2_frameTile_0 rfl (lv_at hl 1 rfl) ?_
  refine lv_i2l (v := (nI k).toInt64) hx hb dX2_frameTile_1 rfl ?_
  refine td_tl (lN k) (nI_l (by omega)) ?_
  refine lv_aload_n hx hb dX2_frameTile_2 rfl (lv_at hl 0 rfl) ?_
  refine va_get (D := (dC, dI)) (ci := 2) (v := .int (nI ta)) (C := RX2) (T := TX2) (N := 15) hx hb hts td_fX2 hown hK hP 0 rfl rfl 2 (by decide) (hts (.fieldLink RX2 54 "TileDesk$Picture" "tilesAcross" "I") (td_i3 (List.mem_of_getElem? (i := 6) rfl))) (fun _ h9 => h9) rfl dX2_frameTile_3 ?_
  refine lv_i2l (v := (nI ta).toInt64) hx hb dX2_frameTile_6 rfl ?_
  refine td_tl (lN ta) (nI_l (by omega)) ?_
  refine td_csl (va_runSN (As := [.long (lN k), .long (lN ta)]) (rest := []) ⟨hx, hb, hml, hown, hts⟩ (td_quotient l dC dI cI cJ cZ (lN k) (lN ta)) (⟨va_cnB 2 hts (td_gC (td_i7 (List.mem_of_getElem? (i := 3) rfl))) rfl rfl rfl (hZ.2 _ (List.mem_of_getElem? (i := 14) rfl)) (hts (.initialized RX3) (td_i1 (List.mem_of_getElem? (i := 1) rfl))) (by decide +kernel) ⟨(Nat.le_of_ble_eq_true rfl), (Nat.le_of_ble_eq_true rfl)⟩, (hts (.static yX3_quotient) (td_i7 (List.mem_of_getElem? (i := 2) rfl))), trivial⟩) (td_pRS hK hZ hP [] rfl) rfl rfl hl.1 rfl (lv_room (Nat.le_of_ble_eq_true rfl)) dX2_frameTile_7 ⟨Nat.zero_le _, Nat.zero_le _⟩) ?_
  refine td_tl (lN (k / ta)) (td_q_nat (by omega) hta1 (by omega)) ?_
  refine lv_l2i (v := (lN (k / ta)).toInt32) hx hb dX2_frameTile_10 rfl ?_
  refine td_ti (nI (k / ta)) (lN_i _) ?_
  refine lv_istore_n (lv' := [(2, .int (nI (k / ta))), (0, .ref qU), (1, .int (nI k))]) hx hb dX2_frameTile_11 rfl hl (by decide) rfl (fun ls hl => ?_)
  refine lv_iload_n hx hb dX2_frameTile_12 rfl (lv_at hl 2 rfl) ?_
  refine lv_iload_n hx hb dX2_frameTile_13 rfl (lv_at hl 0 rfl) ?_
  refine lv_aload_n hx hb dX2_frameTile_14 rfl (lv_at hl 1 rfl) ?_
  refine va_get (D := (dC, dI)) (ci := 2) (v := .int (nI ta)) (C := RX2) (T := TX2) (N := 15) hx hb hts td_fX2 hown hK hP 0 rfl rfl 2 (by decide) (hts (.fieldLink RX2 54 "TileDesk$Picture" "tilesAcross" "I") (td_i3 (List.mem_of_getElem? (i := 6) rfl))) (fun _ h9 => h9) rfl dX2_frameTile_15 ?_
  refine lv_imul hx hb dX2_frameTile_18 ?_
  refine td_ti (nI ((k / ta) * ta)) (pk_mul (k / ta) ta) ?_
  refine lv_isub hx hb dX2_frameTile_19 ?_
  refine td_ti (nI (k % ta)) ((pk_sub (by omega)).trans (congrArg nI td_modk)) ?_
  refine lv_istore_n (lv' := [(3, .int (nI (k % ta))), (2, .int (nI (k / ta))), (0, .ref qU), (1, .int (nI k))]) hx hb dX2_frameTile_20 rfl hl (by decide) rfl (fun ls hl => ?_)
  refine lv_aload_n hx hb dX2_frameTile_21 rfl (lv_at hl 2 rfl) ?_
  refine lv_iload_n hx hb dX2_frameTile_22 rfl (lv_at hl 0 rfl) ?_
  refine lv_bipush (v := 8) hx hb dX2_frameTile_23 (by decide) ?_
  refine lv_imul hx hb dX2_frameTile_25 ?_
  refine td_ti (nI ((k % ta) * 8)) (pk_mul (k % ta) 8) ?_
  refine va_put (D := (dC, dI)) (ci := 2) (v := .int (nI ((k % ta) * 8))) (ty := .int) (C := RX2) (T := TX2) (N := 15) hx hb hts td_fX2 tyX2 tyX2_ok nmX2 hown hK hP hD hS 0 rfl rfl 11 (by decide) (hts (.fieldLink RX2 36 "TileDesk$Picture" "left" "I") (td_i3 (List.mem_of_getElem? (i := 15) rfl))) (fun _ h9 => h9) rfl (by decide +kernel) rfl rfl (Nat.le_of_ble_eq_true rfl) dX2_frameTile_26 (fun H locs hP hD hS => ?_)
  have hP : va_P (dC, dI) vwCl [(qU, .inr (2, [.int (nI w), .int (nI h), .int (nI ta), .ref cC, .ref cN, .ref cD, .ref qT, .ref qH, .int bg, .int bn, .int dt, .int (nI ((k % ta) * 8)), .int tp, .int rt, .int bm]))] H := hP
  have hD : va_D A [(qU, .inr (2, [.int (nI w), .int (nI h), .int (nI ta), .ref cC, .ref cN, .ref cD, .ref qT, .ref qH, .int bg, .int bn, .int dt, .int (nI ((k % ta) * 8)), .int tp, .int rt, .int bm]))] := hD
  refine lv_aload_n hx hb dX2_frameTile_29 rfl (lv_at hl 2 rfl) ?_
  refine lv_iload_n hx hb dX2_frameTile_30 rfl (lv_at hl 1 rfl) ?_
  refine lv_bipush (v := 8) hx hb dX2_frameTile_31 (by decide) ?_
  refine lv_imul hx hb dX2_frameTile_33 ?_
  refine td_ti (nI ((k / ta) * 8)) (pk_mul (k / ta) 8) ?_
  refine va_put (D := (dC, dI)) (ci := 2) (v := .int (nI ((k / ta) * 8))) (ty := .int) (C := RX2) (T := TX2) (N := 15) hx hb hts td_fX2 tyX2 tyX2_ok nmX2 hown hK hP hD hS 0 rfl rfl 12 (by decide) (hts (.fieldLink RX2 39 "TileDesk$Picture" "top" "I") (td_i3 (List.mem_of_getElem? (i := 16) rfl))) (fun _ h9 => h9) rfl (by decide +kernel) rfl rfl (Nat.le_of_ble_eq_true rfl) dX2_frameTile_34 (fun H locs hP hD hS => ?_)
  have hP : va_P (dC, dI) vwCl [(qU, .inr (2, [.int (nI w), .int (nI h), .int (nI ta), .ref cC, .ref cN, .ref cD, .ref qT, .ref qH, .int bg, .int bn, .int dt, .int (nI ((k % ta) * 8)), .int (nI ((k / ta) * 8)), .int rt, .int bm]))] H := hP
  have hD : va_D A [(qU, .inr (2, [.int (nI w), .int (nI h), .int (nI ta), .ref cC, .ref cN, .ref cD, .ref qT, .ref qH, .int bg, .int bn, .int dt, .int (nI ((k % ta) * 8)), .int (nI ((k / ta) * 8)), .int rt, .int bm]))] := hD
  refine lv_aload_n hx hb dX2_frameTile_37 rfl (lv_at hl 2 rfl) ?_
  refine lv_aload_n hx hb dX2_frameTile_38 rfl (lv_at hl 2 rfl) ?_
  refine va_get (D := (dC, dI)) (ci := 2) (v := .int (nI w)) (C := RX2) (T := TX2) (N := 15) hx hb hts td_fX2 hown hK hP 0 rfl rfl 0 (by decide) (hts (.fieldLink RX2 48 "TileDesk$Picture" "width" "I") (td_i3 (List.mem_of_getElem? (i := 4) rfl))) (fun _ h9 => h9) rfl dX2_frameTile_39 ?_
  refine lv_aload_n hx hb dX2_frameTile_42 rfl (lv_at hl 2 rfl) ?_
  refine va_get (D := (dC, dI)) (ci := 2) (v := .int (nI ((k % ta) * 8))) (C := RX2) (T := TX2) (N := 15) hx hb hts td_fX2 hown hK hP 0 rfl rfl 11 (by decide) (hts (.fieldLink RX2 36 "TileDesk$Picture" "left" "I") (td_i3 (List.mem_of_getElem? (i := 15) rfl))) (fun _ h9 => h9) rfl dX2_frameTile_43 ?_
  refine lv_bipush (v := 8) hx hb dX2_frameTile_46 (by decide) ?_
  refine lv_iadd hx hb dX2_frameTile_48 ?_
  refine td_ti (nI ((k % ta) * 8 + 8)) (nI_add ((k % ta) * 8) 8) ?_
  refine va_mmin hx hb (by rw [hml]; exact hl.1.symm) hown (hts _ (td_i7 (List.mem_of_getElem? (i := 7) rfl))) (hts _ (td_i2 (List.mem_of_getElem? (i := 17) rfl))) (hts _ (td_i1 (List.mem_of_getElem? (i := 5) rfl))) (hts _ (td_i2 (List.mem_of_getElem? (i := 18) rfl))) (Nat.le_of_ble_eq_true rfl) (Nat.le_of_ble_eq_true rfl) (Nat.zero_le _) (Nat.zero_le _) dX2_frameTile_49 ?_
  refine td_ti (nI (if k % ta * 8 + 8 < w then k % ta * 8 + 8 else w)) (td_min32 (by omega) (by omega)) ?_
  refine va_put (D := (dC, dI)) (ci := 2) (v := .int (nI (if k % ta * 8 + 8 < w then k % ta * 8 + 8 else w))) (ty := .int) (C := RX2) (T := TX2) (N := 15) hx hb hts td_fX2 tyX2 tyX2_ok nmX2 hown hK hP hD hS 0 rfl rfl 13 (by decide) (hts (.fieldLink RX2 42 "TileDesk$Picture" "right" "I") (td_i3 (List.mem_of_getElem? (i := 17) rfl))) (fun _ h9 => h9) rfl (by decide +kernel) rfl rfl (Nat.le_of_ble_eq_true rfl) dX2_frameTile_52 (fun H locs hP hD hS => ?_)
  have hP : va_P (dC, dI) vwCl [(qU, .inr (2, [.int (nI w), .int (nI h), .int (nI ta), .ref cC, .ref cN, .ref cD, .ref qT, .ref qH, .int bg, .int bn, .int dt, .int (nI ((k % ta) * 8)), .int (nI ((k / ta) * 8)), .int (nI (if k % ta * 8 + 8 < w then k % ta * 8 + 8 else w)), .int bm]))] H := hP
  have hD : va_D A [(qU, .inr (2, [.int (nI w), .int (nI h), .int (nI ta), .ref cC, .ref cN, .ref cD, .ref qT, .ref qH, .int bg, .int bn, .int dt, .int (nI ((k % ta) * 8)), .int (nI ((k / ta) * 8)), .int (nI (if k % ta * 8 + 8 < w then k % ta * 8 + 8 else w)), .int bm]))] := hD
  refine lv_aload_n hx hb dX2_frameTile_55 rfl (lv_at hl 2 rfl) ?_
  refine lv_aload_n hx hb dX2_frameTile_56 rfl (lv_at hl 2 rfl) ?_
  refine va_get (D := (dC, dI)) (ci := 2) (v := .int (nI h)) (C := RX2) (T := TX2) (N := 15) hx hb hts td_fX2 hown hK hP 0 rfl rfl 1 (by decide) (hts (.fieldLink RX2 51 "TileDesk$Picture" "height" "I") (td_i3 (List.mem_of_getElem? (i := 5) rfl))) (fun _ h9 => h9) rfl dX2_frameTile_57 ?_
  refine lv_aload_n hx hb dX2_frameTile_60 rfl (lv_at hl 2 rfl) ?_
  refine va_get (D := (dC, dI)) (ci := 2) (v := .int (nI ((k / ta) * 8))) (C := RX2) (T := TX2) (N := 15) hx hb hts td_fX2 hown hK hP 0 rfl rfl 12 (by decide) (hts (.fieldLink RX2 39 "TileDesk$Picture" "top" "I") (td_i3 (List.mem_of_getElem? (i := 16) rfl))) (fun _ h9 => h9) rfl dX2_frameTile_61 ?_
  refine lv_bipush (v := 8) hx hb dX2_frameTile_64 (by decide) ?_
  refine lv_iadd hx hb dX2_frameTile_66 ?_
  refine td_ti (nI ((k / ta) * 8 + 8)) (nI_add ((k / ta) * 8) 8) ?_
  refine va_mmin hx hb (by rw [hml]; exact hl.1.symm) hown (hts _ (td_i7 (List.mem_of_getElem? (i := 7) rfl))) (hts _ (td_i2 (List.mem_of_getElem? (i := 17) rfl))) (hts _ (td_i1 (List.mem_of_getElem? (i := 5) rfl))) (hts _ (td_i2 (List.mem_of_getElem? (i := 18) rfl))) (Nat.le_of_ble_eq_true rfl) (Nat.le_of_ble_eq_true rfl) (Nat.zero_le _) (Nat.zero_le _) dX2_frameTile_67 ?_
  refine td_ti (nI (if k / ta * 8 + 8 < h then k / ta * 8 + 8 else h)) (td_min32 (by omega) (by omega)) ?_
  refine va_put (D := (dC, dI)) (ci := 2) (v := .int (nI (if k / ta * 8 + 8 < h then k / ta * 8 + 8 else h))) (ty := .int) (C := RX2) (T := TX2) (N := 15) hx hb hts td_fX2 tyX2 tyX2_ok nmX2 hown hK hP hD hS 0 rfl rfl 14 (by decide) (hts (.fieldLink RX2 45 "TileDesk$Picture" "bottom" "I") (td_i3 (List.mem_of_getElem? (i := 18) rfl))) (fun _ h9 => h9) rfl (by decide +kernel) rfl rfl (Nat.le_of_ble_eq_true rfl) dX2_frameTile_70 (fun H locs hP hD hS => ?_)
  have hP : va_P (dC, dI) vwCl [(qU, .inr (2, [.int (nI w), .int (nI h), .int (nI ta), .ref cC, .ref cN, .ref cD, .ref qT, .ref qH, .int bg, .int bn, .int dt, .int (nI ((k % ta) * 8)), .int (nI ((k / ta) * 8)), .int (nI (if k % ta * 8 + 8 < w then k % ta * 8 + 8 else w)), .int (nI (if k / ta * 8 + 8 < h then k / ta * 8 + 8 else h))]))] H := hP
  have hD : va_D A [(qU, .inr (2, [.int (nI w), .int (nI h), .int (nI ta), .ref cC, .ref cN, .ref cD, .ref qT, .ref qH, .int bg, .int bn, .int dt, .int (nI ((k % ta) * 8)), .int (nI ((k / ta) * 8)), .int (nI (if k % ta * 8 + 8 < w then k % ta * 8 + 8 else w)), .int (nI (if k / ta * 8 + 8 < h then k / ta * 8 + 8 else h))]))] := hD
  have hP9 := hP.sub (ws' := [(qU, .inr (2, [.int (nI w), .int (nI h), .int (nI ta), .ref cC, .ref cN, .ref cD, .ref qT, .ref qH, .int bg, .int bn, .int dt, .int (nI (k % ta * 8)), .int (nI (k / ta * 8)), .int (nI (if k % ta * 8 + 8 < w then k % ta * 8 + 8 else w)), .int (nI (if k / ta * 8 + 8 < h then k / ta * 8 + 8 else h))]))]) [0] rfl
  have hD9 := hD.sub (ws' := [(qU, .inr (2, [.int (nI w), .int (nI h), .int (nI ta), .ref cC, .ref cN, .ref cD, .ref qT, .ref qH, .int bg, .int bn, .int dt, .int (nI (k % ta * 8)), .int (nI (k / ta * 8)), .int (nI (if k % ta * 8 + 8 < w then k % ta * 8 + 8 else w)), .int (nI (if k / ta * 8 + 8 < h then k / ta * 8 + 8 else h))]))]) [0] (by decide) rfl
  exact td_rwv () hx hb hr hlocks hK (trivial) hP9 hD9 hS dX2_frameTile_73
set_option maxHeartbeats 4000000 in
set_option maxRecDepth 100000 in
/-- Picture.fillWithBackground -/
theorem td_fill (l : Launch) (dC : Nat → ClassId) (dI : Nat → Nat → Nat) (cI cJ cZ : ClassId) (sz : Nat) (qU : Nat) (cC : Nat) (cN : Nat) (cD : Nat) (qT : Nat) (qH : Nat) (w : Nat) (h : Nat) (ta : Nat) (bg : Int32) (bn : Int32) (dt : Int32) (lf : Nat) (tp : Nat) (rt : Nat) (bm : Nat) (wh : Nat) (fc : Nat → Int32) (fn : Nat → Int32) (hw1 : 8 ≤ w) (hw2 : w ≤ 48) (hh1 : 8 ≤ h) (hh2 : h ≤ 48) (hlr : lf < rt) (hrw : rt ≤ w) (htb : tp < bm) (hbh : bm ≤ h) (hwh : wh = w * h) : Met l yX2_fillWithBackground wsX2_fillWithBackground ({ frames := 1, cells := 0, slots := 0, locals := 22 }) (td_WP (dC, dI) vwCl (td_T cI cJ cZ) td_nl [(qU, .inr (2, [.int (nI w), .int (nI h), .int (nI ta), .ref cC, .ref cN, .ref cD, .ref qT, .ref qH, .int bg, .int bn, .int dt, .int (nI lf), .int (nI tp), .int (nI rt), .int (nI bm)])), (cC, .inl (cI, wh, .inl fc)), (cN, .inl (cI, wh, .inl fn))] sz [.ref qU]) (va_Qv (S := (Nat → Int32) × (Nat → Int32)) (fun u => td_fI w h lf tp rt bm lf bg fc u.1 ∧ td_fI w h lf tp rt bm lf 0 fn u.2) (td_B (dC, dI) vwCl (td_T cI cJ cZ) (va_A [(qU, .inr (2, [.int (nI w), .int (nI h), .int (nI ta), .ref cC, .ref cN, .ref cD, .ref qT, .ref qH, .int bg, .int bn, .int dt, .int (nI lf), .int (nI tp), .int (nI rt), .int (nI bm)])), (cC, .inl (cI, wh, .inl fc)), (cN, .inl (cI, wh, .inl fn))] sz) (fun (u : (Nat → Int32) × (Nat → Int32)) => [(qU, .inr (2, [.int (nI w), .int (nI h), .int (nI ta), .ref cC, .ref cN, .ref cD, .ref qT, .ref qH, .int bg, .int bn, .int dt, .int (nI lf), .int (nI tp), .int (nI rt), .int (nI bm)])), (cC, .inl (cI, wh, .inl u.1)), (cN, .inl (cI, wh, .inl u.2))])) (va_A [(qU, .inr (2, [.int (nI w), .int (nI h), .int (nI ta), .ref cC, .ref cN, .ref cD, .ref qT, .ref qH, .int bg, .int bn, .int dt, .int (nI lf), .int (nI tp), .int (nI rt), .int (nI bm)])), (cC, .inl (cI, wh, .inl fc)), (cN, .inl (cI, wh, .inl fn))] sz)) 0 0 (va_A [(qU, .inr (2, [.int (nI w), .int (nI h), .int (nI ta), .ref cC, .ref cN, .ref cD, .ref qT, .ref qH, .int bg, .int bn, .int dt, .int (nI lf), .int (nI tp), .int (nI rt), .int (nI bm)])), (cC, .inl (cI, wh, .inl fc)), (cN, .inl (cI, wh, .inl fn))] sz) := by
  refine Met.ofW (cc := cX2_fillWithBackground) (maxL := 3) (ret := none) (by decide) rfl ?_
  intro p e s m args below meth c s₁ B hml hv
  obtain ⟨rfl, hsz, hP, hK, hZ, hD0⟩ := hv
  have hx := B.exec
  have hb := B.bytes
  have hr := B.returns
  have hts := atoms_spec (ws := wsX2_fillWithBackground) B.pre
  have hown : s.vm.findClass RX2 = some m.cls := findClass_of_methodNamed B.named
  have hlocks := B.notSynchronized
  subst hsz
  have hD := hD0.self (sz := s.heap.size)
  generalize hAe : va_A [(qU, .inr (2, [.int (nI w), .int (nI h), .int (nI ta), .ref cC, .ref cN, .ref cD, .ref qT, .ref qH, .int bg, .int bn, .int dt, .int (nI lf), .int (nI tp), .int (nI rt), .int (nI bm)])), (cC, .inl (cI, wh, .inl fc)), (cN, .inl (cI, wh, .inl fn))] s.heap.size = A at hD ⊢
  have hA : ∀ q : Nat, s.heap.size ≤ q → A q := fun q h => by rw [← hAe]; exact Or.inr h
  have hS : va_S A s.heap s.heap [] := va_S.rf
  have hP : va_P (dC, dI) vwCl [(qU, .inr (2, [.int (nI w), .int (nI h), .int (nI ta), .ref cC, .ref cN, .ref cD, .ref qT, .ref qH, .int bg, .int bn, .int dt, .int (nI lf), .int (nI tp), .int (nI rt), .int (nI bm)])), (cC, .inl (cI, wh, .inl fc)), (cN, .inl (cI, wh, .inl fn))] s.heap := hP
  have hl := lv_entry ([.ref qU]) (n := 3) (Nat.le_of_ble_eq_true rfl)
  rw [lg_entry_eq]
  generalize (lg_sl ([.ref qU]) ++ List.replicate (3 - (lg_sl ([.ref qU])).length) Slot.unset).toArray = ls at hl ⊢
  have hl : lv_has ls 3 [(0, .ref qU)] := hl
  have hw48 := td_wh hw2 hh2
  refine lv_aload_n hx hb dX2_fillWithBackground_0 rfl (lv_at hl 0 rfl) ?_
  refine va_get (D := (dC, dI)) (ci := 2) (v := .int (nI tp)) (C := RX2) (T := TX2) (N := 15) hx hb hts td_fX2 hown hK hP 0 rfl rfl 12 (by decide) (hts (.fieldLink RX2 39 "TileDesk$Picture" "top" "I") (td_i3 (List.mem_of_getElem? (i := 16) rfl))) (fun _ h9 => h9) rfl dX2_fillWithBackground_1 ?_
  refine lv_istore_n (lv' := [(1, .int (nI tp)), (0, .ref qU)]) hx hb dX2_fillWithBackground_4 rfl hl (by decide) rfl (fun ls hl => ?_)
  have lp5 : ∀ (n5 : Nat) (y : Nat) (gc : Nat → Int32) (gn : Nat → Int32), (tp ≤ y) → (y ≤ bm) → (td_fI w h lf tp rt y lf bg fc gc) → (td_fI w h lf tp rt y lf 0 fn gn) → bm - y < n5 → ∀ (H : Heap) (locs : List Loc), va_P (dC, dI) vwCl [(qU, .inr (2, [.int (nI w), .int (nI h), .int (nI ta), .ref cC, .ref cN, .ref cD, .ref qT, .ref qH, .int bg, .int bn, .int dt, .int (nI lf), .int (nI tp), .int (nI rt), .int (nI bm)])), (cC, .inl (cI, wh, .inl gc)), (cN, .inl (cI, wh, .inl gn))] H → va_D A [(qU, .inr (2, [.int (nI w), .int (nI h), .int (nI ta), .ref cC, .ref cN, .ref cD, .ref qT, .ref qH, .int bg, .int bn, .int dt, .int (nI lf), .int (nI tp), .int (nI rt), .int (nI bm)])), (cC, .inl (cI, wh, .inl gc)), (cN, .inl (cI, wh, .inl gn))] → va_S A s.heap H locs → ∀ ls : Array Slot, lv_has ls 3 [(0, .ref qU), (1, .int (nI y))] → W p l e (headSpec wsX2_fillWithBackground ({ frames := 1, cells := 0, slots := 0, locals := 22 })).room s m (([.ref qU] : List Value).toArray) below meth c H locs 0 0 (MQ below (va_Qv (S := (Nat → Int32) × (Nat → Int32)) (fun u => td_fI w h lf tp rt bm lf bg fc u.1 ∧ td_fI w h lf tp rt bm lf 0 fn u.2) (td_B (dC, dI) vwCl (td_T cI cJ cZ) A (fun (u : (Nat → Int32) × (Nat → Int32)) => [(qU, .inr (2, [.int (nI w), .int (nI h), .int (nI ta), .ref cC, .ref cN, .ref cD, .ref qT, .ref qH, .int bg, .int bn, .int dt, .int (nI lf), .int (nI tp), .int (nI rt), .int (nI bm)])), (cC, .inl (cI, wh, .inl u.1)), (cN, .inl (cI, wh, .inl u.2))])) A) (([.ref qU] : List Value).toArray) s 0 0 A) (F0 m 5 ls []) := by
    intro n5
    induction n5 with
    | zero => intro y gc gn hy1 hy2 hic hin2 hm; exact absurd hm (Nat.not_lt_zero _)
    | succ n5 ih5 =>
      intro y gc gn hy1 hy2 hic hin2 hm5 H locs hP hD hS ls hl
      refine lv_iload_n hx hb dX2_fillWithBackground_5 rfl (lv_at hl 1 rfl) ?_
      refine lv_aload_n hx hb dX2_fillWithBackground_6 rfl (lv_at hl 0 rfl) ?_
      refine va_get (D := (dC, dI)) (ci := 2) (v := .int (nI bm)) (C := RX2) (T := TX2) (N := 15) hx hb hts td_fX2 hown hK hP 0 rfl rfl 14 (by decide) (hts (.fieldLink RX2 45 "TileDesk$Picture" "bottom" "I") (td_i3 (List.mem_of_getElem? (i := 18) rfl))) (fun _ h9 => h9) rfl dX2_fillWithBackground_7 ?_
      refine lv_icmp_ge (tgt := 65) hx hb dX2_fillWithBackground_10 (by decide) (fun c10 => ?_) (fun c10 => ?_)
      · have hyb : y = bm := by have := (nI_leI (a := bm) (b := y) (by omega) (by omega)).mp c10; omega
        have hP9 := hP.sub (ws' := [(qU, .inr (2, [.int (nI w), .int (nI h), .int (nI ta), .ref cC, .ref cN, .ref cD, .ref qT, .ref qH, .int bg, .int bn, .int dt, .int (nI lf), .int (nI tp), .int (nI rt), .int (nI bm)])), (cC, .inl (cI, wh, .inl gc)), (cN, .inl (cI, wh, .inl gn))]) [0, 1, 2] rfl
        have hD9 := hD.sub (ws' := [(qU, .inr (2, [.int (nI w), .int (nI h), .int (nI ta), .ref cC, .ref cN, .ref cD, .ref qT, .ref qH, .int bg, .int bn, .int dt, .int (nI lf), .int (nI tp), .int (nI rt), .int (nI bm)])), (cC, .inl (cI, wh, .inl gc)), (cN, .inl (cI, wh, .inl gn))]) [0, 1, 2] (by decide) rfl
        exact td_rwv (gc, gn) hx hb hr hlocks hK (⟨by have z := hic; rw [hyb] at z; exact z, by have z := hin2; rw [hyb] at z; exact z⟩) hP9 hD9 hS dX2_fillWithBackground_65
      · have hyl : y < bm := by rcases Nat.lt_or_ge y bm with q | q; exact q; exact absurd (nI_le q (by omega)) c10
        refine lv_aload_n hx hb dX2_fillWithBackground_13 rfl (lv_at hl 0 rfl) ?_
        refine va_get (D := (dC, dI)) (ci := 2) (v := .int (nI lf)) (C := RX2) (T := TX2) (N := 15) hx hb hts td_fX2 hown hK hP 0 rfl rfl 11 (by decide) (hts (.fieldLink RX2 36 "TileDesk$Picture" "left" "I") (td_i3 (List.mem_of_getElem? (i := 15) rfl))) (fun _ h9 => h9) rfl dX2_fillWithBackground_14 ?_
        refine lv_istore_n (lv' := [(2, .int (nI lf)), (0, .ref qU), (1, .int (nI y))]) hx hb dX2_fillWithBackground_17 rfl hl (by decide) rfl (fun ls hl => ?_)
        have lp18 : ∀ (n18 : Nat) (x : Nat) (gc : Nat → Int32) (gn : Nat → Int32), (lf ≤ x) → (x ≤ rt) → (td_fI w h lf tp rt y x bg fc gc) → (td_fI w h lf tp rt y x 0 fn gn) → rt - x < n18 → ∀ (H : Heap) (locs : List Loc), va_P (dC, dI) vwCl [(qU, .inr (2, [.int (nI w), .int (nI h), .int (nI ta), .ref cC, .ref cN, .ref cD, .ref qT, .ref qH, .int bg, .int bn, .int dt, .int (nI lf), .int (nI tp), .int (nI rt), .int (nI bm)])), (cC, .inl (cI, wh, .inl gc)), (cN, .inl (cI, wh, .inl gn))] H → va_D A [(qU, .inr (2, [.int (nI w), .int (nI h), .int (nI ta), .ref cC, .ref cN, .ref cD, .ref qT, .ref qH, .int bg, .int bn, .int dt, .int (nI lf), .int (nI tp), .int (nI rt), .int (nI bm)])), (cC, .inl (cI, wh, .inl gc)), (cN, .inl (cI, wh, .inl gn))] → va_S A s.heap H locs → ∀ ls : Array Slot, lv_has ls 3 [(0, .ref qU), (1, .int (nI y)), (2, .int (nI x))] → W p l e (headSpec wsX2_fillWithBackground ({ frames := 1, cells := 0, slots := 0, locals := 22 })).room s m (([.ref qU] : List Value).toArray) below meth c H locs 0 0 (MQ below (va_Qv (S := (Nat → Int32) × (Nat → Int32)) (fun u => td_fI w h lf tp rt bm lf bg fc u.1 ∧ td_fI w h lf tp rt bm lf 0 fn u.2) (td_B (dC, dI) vwCl (td_T cI cJ cZ) A (fun (u : (Nat → Int32) × (Nat → Int32)) => [(qU, .inr (2, [.int (nI w), .int (nI h), .int (nI ta), .ref cC, .ref cN, .ref cD, .ref qT, .ref qH, .int bg, .int bn, .int dt, .int (nI lf), .int (nI tp), .int (nI rt), .int (nI bm)])), (cC, .inl (cI, wh, .inl u.1)), (cN, .inl (cI, wh, .inl u.2))])) A) (([.ref qU] : List Value).toArray) s 0 0 A) (F0 m 18 ls []) := by
          intro n18
          induction n18 with
          | zero => intro x gc gn hx1 hx2 hic hin2 hm; exact absurd hm (Nat.not_lt_zero _)
          | succ n18 ih18 =>
            intro x gc gn hx1 hx2 hic hin2 hm18 H locs hP hD hS ls hl
            refine lv_iload_n hx hb dX2_fillWithBackground_18 rfl (lv_at hl 2 rfl) ?_
            refine lv_aload_n hx hb dX2_fillWithBackground_19 rfl (lv_at hl 0 rfl) ?_
            refine va_get (D := (dC, dI)) (ci := 2) (v := .int (nI rt)) (C := RX2) (T := TX2) (N := 15) hx hb hts td_fX2 hown hK hP 0 rfl rfl 13 (by decide) (hts (.fieldLink RX2 42 "TileDesk$Picture" "right" "I") (td_i3 (List.mem_of_getElem? (i := 17) rfl))) (fun _ h9 => h9) rfl dX2_fillWithBackground_20 ?_
            refine lv_icmp_ge (tgt := 59) hx hb dX2_fillWithBackground_23 (by decide) (fun c23 => ?_) (fun c23 => ?_)
            · have hxr : x = rt := by have := (nI_leI (a := rt) (b := x) (by omega) (by omega)).mp c23; omega
              refine lv_iinc (v := nI (y + 1)) (lv' := [(1, .int (nI (y + 1))), (0, .ref qU), (2, .int (nI x))]) hx hb dX2_fillWithBackground_59 hl (k := 1) rfl (nI_add y 1) (by decide) rfl (fun ls hl => ?_)
              refine lv_goto (tgt := 5) hx hb dX2_fillWithBackground_62 (by decide) ?_
              exact ih5 (y + 1) gc gn (by omega) (by omega) (td_fI_row hy1 (by have z := hic; rw [hxr] at z; exact z)) (td_fI_row hy1 (by have z := hin2; rw [hxr] at z; exact z)) (by omega) _ _ (hP.sub [0, 1, 2] rfl) (hD.sub [0, 1, 2] (by decide) rfl) hS ls (lv_sub hl [1, 0] rfl)
            · have hxl : x < rt := by rcases Nat.lt_or_ge x rt with q | q; exact q; exact absurd (nI_le q (by omega)) c23
              refine lv_aload_n hx hb dX2_fillWithBackground_26 rfl (lv_at hl 0 rfl) ?_
              refine va_get (D := (dC, dI)) (ci := 2) (v := .ref cC) (C := RX2) (T := TX2) (N := 15) hx hb hts td_fX2 hown hK hP 0 rfl rfl 3 (by decide) (hts (.fieldLink RX2 57 "TileDesk$Picture" "colours" "[I") (td_i3 (List.mem_of_getElem? (i := 7) rfl))) (fun _ h9 => h9) rfl dX2_fillWithBackground_27 ?_
              refine lv_aload_n hx hb dX2_fillWithBackground_30 rfl (lv_at hl 0 rfl) ?_
              refine lv_iload_n hx hb dX2_fillWithBackground_31 rfl (lv_at hl 2 rfl) ?_
              refine lv_iload_n hx hb dX2_fillWithBackground_32 rfl (lv_at hl 1 rfl) ?_
              refine td_csi (va_runV (As := [.int (nI x), .int (nI y)]) (rest := [.ref cC]) ⟨hx, hb, hml, hown, hts⟩ (td_pixelIndex l dC dI cI cJ cZ qU cC cN cD qT qH w h ta bg bn dt (nI lf) (nI tp) (nI rt) (nI bm) x y) (cwV 2 hts (td_gV (td_i7 (List.mem_of_getElem? (i := 11) rfl)) (td_i7 (List.mem_of_getElem? (i := 12) rfl)) (td_i7 (List.mem_of_getElem? (i := 13) rfl)) (td_i1 (List.mem_of_getElem? (i := 4) rfl)) (td_i7 (List.mem_of_getElem? (i := 14) rfl))) rfl rfl rfl (by decide +kernel) ⟨(Nat.le_of_ble_eq_true rfl), (Nat.le_of_ble_eq_true rfl)⟩) (td_pRV hK hZ hP [0] rfl (va_recv hK hP (ci := 2) (q0 := 0) rfl rfl)) rfl rfl hl.1 rfl (lv_room (Nat.le_of_ble_eq_true rfl)) dX2_fillWithBackground_33 ⟨Nat.zero_le _, Nat.zero_le _⟩) ?_
              refine lv_aload_n hx hb dX2_fillWithBackground_36 rfl (lv_at hl 0 rfl) ?_
              refine va_get (D := (dC, dI)) (ci := 2) (v := .int bg) (C := RX2) (T := TX2) (N := 15) hx hb hts td_fX2 hown hK hP 0 rfl rfl 8 (by decide) (hts (.fieldLink RX2 25 "TileDesk$Picture" "background" "I") (td_i3 (List.mem_of_getElem? (i := 12) rfl))) (fun _ h9 => h9) rfl dX2_fillWithBackground_37 ?_
              refine td_iast hx hb hK hP hD hS 1 0 (y * w + x) rfl rfl rfl (by rw [hwh]; exact td_ix (by omega) (by omega)) (by omega) dX2_fillWithBackground_40 (fun H locs hP hD hS => ?_)
              have hP : va_P (dC, dI) vwCl [(qU, .inr (2, [.int (nI w), .int (nI h), .int (nI ta), .ref cC, .ref cN, .ref cD, .ref qT, .ref qH, .int bg, .int bn, .int dt, .int (nI lf), .int (nI tp), .int (nI rt), .int (nI bm)])), (cC, .inl (cI, wh, .inl (upd gc (y * w + x) bg))), (cN, .inl (cI, wh, .inl gn))] H := hP
              have hD : va_D A [(qU, .inr (2, [.int (nI w), .int (nI h), .int (nI ta), .ref cC, .ref cN, .ref cD, .ref qT, .ref qH, .int bg, .int bn, .int dt, .int (nI lf), .int (nI tp), .int (nI rt), .int (nI bm)])), (cC, .inl (cI, wh, .inl (upd gc (y * w + x) bg))), (cN, .inl (cI, wh, .inl gn))] := hD
              refine lv_aload_n hx hb dX2_fillWithBackground_41 rfl (lv_at hl 0 rfl) ?_
              refine va_get (D := (dC, dI)) (ci := 2) (v := .ref cN) (C := RX2) (T := TX2) (N := 15) hx hb hts td_fX2 hown hK hP 0 rfl rfl 4 (by decide) (hts (.fieldLink RX2 61 "TileDesk$Picture" "nearest" "[I") (td_i3 (List.mem_of_getElem? (i := 8) rfl))) (fun _ h9 => h9) rfl dX2_fillWithBackground_42 ?_
              refine lv_aload_n hx hb dX2_fillWithBackground_45 rfl (lv_at hl 0 rfl) ?_
              refine lv_iload_n hx hb dX2_fillWithBackground_46 rfl (lv_at hl 2 rfl) ?_
              refine lv_iload_n hx hb dX2_fillWithBackground_47 rfl (lv_at hl 1 rfl) ?_
              refine td_csi (va_runV (As := [.int (nI x), .int (nI y)]) (rest := [.ref cN]) ⟨hx, hb, hml, hown, hts⟩ (td_pixelIndex l dC dI cI cJ cZ qU cC cN cD qT qH w h ta bg bn dt (nI lf) (nI tp) (nI rt) (nI bm) x y) (cwV 2 hts (td_gV (td_i7 (List.mem_of_getElem? (i := 11) rfl)) (td_i7 (List.mem_of_getElem? (i := 12) rfl)) (td_i7 (List.mem_of_getElem? (i := 13) rfl)) (td_i1 (List.mem_of_getElem? (i := 4) rfl)) (td_i7 (List.mem_of_getElem? (i := 14) rfl))) rfl rfl rfl (by decide +kernel) ⟨(Nat.le_of_ble_eq_true rfl), (Nat.le_of_ble_eq_true rfl)⟩) (td_pRV hK hZ hP [0] rfl (va_recv hK hP (ci := 2) (q0 := 0) rfl rfl)) rfl rfl hl.1 rfl (lv_room (Nat.le_of_ble_eq_true rfl)) dX2_fillWithBackground_48 ⟨Nat.zero_le _, Nat.zero_le _⟩) ?_
              refine lv_iconst (v := 0) hx hb dX2_fillWithBackground_51 (by decide) ?_
              refine td_iast hx hb hK hP hD hS 2 0 (y * w + x) rfl rfl rfl (by rw [hwh]; exact td_ix (by omega) (by omega)) (by omega) dX2_fillWithBackground_52 (fun H locs hP hD hS => ?_)
              have hP : va_P (dC, dI) vwCl [(qU, .inr (2, [.int (nI w), .int (nI h), .int (nI ta), .ref cC, .ref cN, .ref cD, .ref qT, .ref qH, .int bg, .int bn, .int dt, .int (nI lf), .int (nI tp), .int (nI rt), .int (nI bm)])), (cC, .inl (cI, wh, .inl (upd gc (y * w + x) bg))), (cN, .inl (cI, wh, .inl (upd gn (y * w + x) 0)))] H := hP
              have hD : va_D A [(qU, .inr (2, [.int (nI w), .int (nI h), .int (nI ta), .ref cC, .ref cN, .ref cD, .ref qT, .ref qH, .int bg, .int bn, .int dt, .int (nI lf), .int (nI tp), .int (nI rt), .int (nI bm)])), (cC, .inl (cI, wh, .inl (upd gc (y * w + x) bg))), (cN, .inl (cI, wh, .inl (upd gn (y * w + x) 0)))] := hD
              refine lv_iinc (v := nI (x + 1)) (lv' := [(2, .int (nI (x + 1))), (0, .ref qU), (1, .int (nI y))]) hx hb dX2_fillWithBackground_53 hl (k := 2) rfl (nI_add x 1) (by decide) rfl (fun ls hl => ?_)
              refine lv_goto (tgt := 18) hx hb dX2_fillWithBackground_56 (by decide) ?_
              exact ih18 (x + 1) (upd gc (y * w + x) bg) (upd gn (y * w + x) 0) (by omega) (by omega) (td_fI_put (by omega) hx1 hxl hic) (td_fI_put (by omega) hx1 hxl hin2) (by omega) _ _ (hP.sub [0, 1, 2] rfl) (hD.sub [0, 1, 2] (by decide) rfl) hS ls (lv_sub hl [1, 2, 0] rfl)
        exact lp18 ((rt - lf) + 1) lf gc gn (Nat.le_refl _) (Nat.le_of_lt hlr) hic hin2 (Nat.lt_succ_self _) _ _ (hP.sub [0, 1, 2] rfl) (hD.sub [0, 1, 2] (by decide) rfl) hS ls (lv_sub hl [1, 2, 0] rfl)
  exact lp5 ((bm - tp) + 1) tp fc fn (Nat.le_refl _) (Nat.le_of_lt htb) td_fI0 td_fI0 (Nat.lt_succ_self _) _ _ (hP.sub [0, 1, 2] rfl) (hD.sub [0, 1, 2] (by decide) rfl) hS ls (lv_sub hl [1, 0] rfl)
set_option maxHeartbeats 4000000 in
set_option maxRecDepth 100000 in
/-- Picture.paint -/
theorem td_paint (l : Launch) (dC : Nat → ClassId) (dI : Nat → Nat → Nat) (cI cJ cZ : ClassId) (sz : Nat) (qU : Nat) (cC : Nat) (cN : Nat) (cD : Nat) (qT : Nat) (qH : Nat) (w : Nat) (h : Nat) (ta : Nat) (bg : Int32) (bn : Int32) (dt : Int32) (lf : Int32) (tp : Int32) (rt : Int32) (bm : Int32) (wh : Nat) (fc : Nat → Int32) (fn : Nat → Int32) (aX : Nat) (aY : Nat) (aR : Nat) (aL : Nat) (aW : Nat) (vX : Nat → Int64) (vY : Nat → Int64) (vR : Nat → Int64) (vL : Nat → Int64) (vW : Nat → Int64) (t : Nat) (T : Nat) (C : Nat) (nr : Nat) (lt : Nat) (c0 : Nat) (n0 : Nat) (ht : t < wh) (hwh : wh ≤ 2304) (hT : T < 16777216) (hC : C ≤ 255) (hN : td_q (td_wr vW vR) (td_ca vX vY) = lN nr) (hnr : nr ≤ 1048576) (hL : td_q (td_wl vW vR vL) (td_wr vW vR) = lN lt) (hlt : lt ≤ 65536) (hc0 : fc t = nI c0) (hc1 : c0 < 16777216) (hn0 : fn t = nI n0) (hn1 : n0 < 2147483648) : Met l yX2_paint wsX2_paint ({ frames := 3, cells := 0, slots := 0, locals := 78 }) (td_WP (dC, dI) vwCl (td_T cI cJ cZ) td_nl [(qU, .inr (2, [.int (nI w), .int (nI h), .int (nI ta), .ref cC, .ref cN, .ref cD, .ref qT, .ref qH, .int bg, .int bn, .int dt, .int lf, .int tp, .int rt, .int bm])), (cC, .inl (cI, wh, .inl fc)), (cN, .inl (cI, wh, .inl fn)), (qH, .inr (0, [.ref aX, .ref aY, .ref aR, .ref aL, .ref aW])), (aX, .inl (cJ, 3, .inr (.inl vX))), (aY, .inl (cJ, 3, .inr (.inl vY))), (aR, .inl (cJ, 3, .inr (.inl vR))), (aL, .inl (cJ, 3, .inr (.inl vL))), (aW, .inl (cJ, 3, .inr (.inl vW)))] sz [.ref qU, .int (nI t), .int (nI T), .int (nI C)]) (va_Qv (S := (Nat → Int32) × (Nat → Int32)) (fun u => (∀ z, z ≠ t → u.1 z = fc z ∧ u.2 z = fn z) ∧ u.1 t = nI (td_pt T nr lt C c0 n0).1 ∧ u.2 t = nI (td_pt T nr lt C c0 n0).2) (td_B (dC, dI) vwCl (td_T cI cJ cZ) (va_A [(qU, .inr (2, [.int (nI w), .int (nI h), .int (nI ta), .ref cC, .ref cN, .ref cD, .ref qT, .ref qH, .int bg, .int bn, .int dt, .int lf, .int tp, .int rt, .int bm])), (cC, .inl (cI, wh, .inl fc)), (cN, .inl (cI, wh, .inl fn)), (qH, .inr (0, [.ref aX, .ref aY, .ref aR, .ref aL, .ref aW])), (aX, .inl (cJ, 3, .inr (.inl vX))), (aY, .inl (cJ, 3, .inr (.inl vY))), (aR, .inl (cJ, 3, .inr (.inl vR))), (aL, .inl (cJ, 3, .inr (.inl vL))), (aW, .inl (cJ, 3, .inr (.inl vW)))] sz) (fun (u : (Nat → Int32) × (Nat → Int32)) => [(qU, .inr (2, [.int (nI w), .int (nI h), .int (nI ta), .ref cC, .ref cN, .ref cD, .ref qT, .ref qH, .int bg, .int bn, .int dt, .int lf, .int tp, .int rt, .int bm])), (cC, .inl (cI, wh, .inl u.1)), (cN, .inl (cI, wh, .inl u.2)), (qH, .inr (0, [.ref aX, .ref aY, .ref aR, .ref aL, .ref aW])), (aX, .inl (cJ, 3, .inr (.inl vX))), (aY, .inl (cJ, 3, .inr (.inl vY))), (aR, .inl (cJ, 3, .inr (.inl vR))), (aL, .inl (cJ, 3, .inr (.inl vL))), (aW, .inl (cJ, 3, .inr (.inl vW)))])) (va_A [(qU, .inr (2, [.int (nI w), .int (nI h), .int (nI ta), .ref cC, .ref cN, .ref cD, .ref qT, .ref qH, .int bg, .int bn, .int dt, .int lf, .int tp, .int rt, .int bm])), (cC, .inl (cI, wh, .inl fc)), (cN, .inl (cI, wh, .inl fn)), (qH, .inr (0, [.ref aX, .ref aY, .ref aR, .ref aL, .ref aW])), (aX, .inl (cJ, 3, .inr (.inl vX))), (aY, .inl (cJ, 3, .inr (.inl vY))), (aR, .inl (cJ, 3, .inr (.inl vR))), (aL, .inl (cJ, 3, .inr (.inl vL))), (aW, .inl (cJ, 3, .inr (.inl vW)))] sz)) 0 0 (va_A [(qU, .inr (2, [.int (nI w), .int (nI h), .int (nI ta), .ref cC, .ref cN, .ref cD, .ref qT, .ref qH, .int bg, .int bn, .int dt, .int lf, .int tp, .int rt, .int bm])), (cC, .inl (cI, wh, .inl fc)), (cN, .inl (cI, wh, .inl fn)), (qH, .inr (0, [.ref aX, .ref aY, .ref aR, .ref aL, .ref aW])), (aX, .inl (cJ, 3, .inr (.inl vX))), (aY, .inl (cJ, 3, .inr (.inl vY))), (aR, .inl (cJ, 3, .inr (.inl vR))), (aL, .inl (cJ, 3, .inr (.inl vL))), (aW, .inl (cJ, 3, .inr (.inl vW)))] sz) := by
  refine Met.ofW (cc := cX2_paint) (maxL := 6) (ret := none) (by decide) rfl ?_
  intro p e s m args below meth c s₁ B hml hv
  obtain ⟨rfl, hsz, hP, hK, hZ, hD0⟩ := hv
  have hx := B.exec
  have hb := B.bytes
  have hr := B.returns
  have hts := atoms_spec (ws := wsX2_paint) B.pre
  have hown : s.vm.findClass RX2 = some m.cls := findClass_of_methodNamed B.named
  have hlocks := B.notSynchronized
  subst hsz
  have hD := hD0.self (sz := s.heap.size)
  generalize hAe : va_A [(qU, .inr (2, [.int (nI w), .int (nI h), .int (nI ta), .ref cC, .ref cN, .ref cD, .ref qT, .ref qH, .int bg, .int bn, .int dt, .int lf, .int tp, .int rt, .int bm])), (cC, .inl (cI, wh, .inl fc)), (cN, .inl (cI, wh, .inl fn)), (qH, .inr (0, [.ref aX, .ref aY, .ref aR, .ref aL, .ref aW])), (aX, .inl (cJ, 3, .inr (.inl vX))), (aY, .inl (cJ, 3, .inr (.inl vY))), (aR, .inl (cJ, 3, .inr (.inl vR))), (aL, .inl (cJ, 3, .inr (.inl vL))), (aW, .inl (cJ, 3, .inr (.inl vW)))] s.heap.size = A at hD ⊢
  have hA : ∀ q : Nat, s.heap.size ≤ q → A q := fun q h => by rw [← hAe]; exact Or.inr h
  have hS : va_S A s.heap s.heap [] := va_S.rf
  have hP : va_P (dC, dI) vwCl [(qU, .inr (2, [.int (nI w), .int (nI h), .int (nI ta), .ref cC, .ref cN, .ref cD, .ref qT, .ref qH, .int bg, .int bn, .int dt, .int lf, .int tp, .int rt, .int bm])), (cC, .inl (cI, wh, .inl fc)), (cN, .inl (cI, wh, .inl fn)), (qH, .inr (0, [.ref aX, .ref aY, .ref aR, .ref aL, .ref aW])), (aX, .inl (cJ, 3, .inr (.inl vX))), (aY, .inl (cJ, 3, .inr (.inl vY))), (aR, .inl (cJ, 3, .inr (.inl vR))), (aL, .inl (cJ, 3, .inr (.inl vL))), (aW, .inl (cJ, 3, .inr (.inl vW)))] s.heap := hP
  have hl := lv_entry ([.ref qU, .int (nI t), .int (nI T), .int (nI C)]) (n := 6) (Nat.le_of_ble_eq_true rfl)
  rw [lg_entry_eq]
  generalize (lg_sl ([.ref qU, .int (nI t), .int (nI T), .int (nI C)]) ++ List.replicate (6 - (lg_sl ([.ref qU, .int (nI t), .int (nI T), .int (nI C)])).length) Slot.unset).toArray = ls at hl ⊢
  have hl : lv_has ls 6 [(0, .ref qU), (1, .int (nI t)), (2, .int (nI T)), (3, .int (nI C))] := hl
  refine lv_aload_n hx hb dX2_paint_0 rfl (lv_at hl 0 rfl) ?_
  refine va_get (D := (dC, dI)) (ci := 2) (v := .ref qH) (C := RX2) (T := TX2) (N := 15) hx hb hts td_fX2 hown hK hP 0 rfl rfl 7 (by decide) (hts (.fieldLink RX2 21 "TileDesk$Picture" "shape" "LTileDesk$Shape;") (td_i3 (List.mem_of_getElem? (i := 11) rfl))) (fun _ h9 => h9) rfl dX2_paint_1 ?_
  refine td_csl (va_runV (As := []) (rest := []) ⟨hx, hb, hml, hown, hts⟩ (td_nearnessHere l dC dI cI cJ cZ qH aX aY aR aL aW vX vY vR vL vW) (cwV 0 hts (td_gV (td_i10 (List.mem_of_getElem? (i := 2) rfl)) (td_i10 (List.mem_of_getElem? (i := 3) rfl)) (td_i10 (List.mem_of_getElem? (i := 4) rfl)) (td_i1 (List.mem_of_getElem? (i := 2) rfl)) (td_i10 (List.mem_of_getElem? (i := 5) rfl))) rfl rfl rfl (by decide +kernel) ⟨(Nat.le_of_ble_eq_true rfl), (Nat.le_of_ble_eq_true rfl)⟩) (td_pRV hK hZ hP [3, 4, 5, 6, 7, 8] rfl (va_recv hK hP (ci := 0) (q0 := 3) rfl rfl)) rfl rfl hl.1 rfl (lv_room (Nat.le_of_ble_eq_true rfl)) dX2_paint_4 ⟨Nat.zero_le _, Nat.zero_le _⟩) ?_
  refine td_tl (lN nr) (hN) ?_
  refine lv_l2i (v := (lN nr).toInt32) hx hb dX2_paint_7 rfl ?_
  refine td_ti (nI nr) (lN_i _) ?_
  refine lv_istore (lv' := [(4, .int (nI nr)), (0, .ref qU), (1, .int (nI t)), (2, .int (nI T)), (3, .int (nI C))]) hx hb dX2_paint_8 hl (by decide) rfl (fun ls hl => ?_)
  refine lv_iload hx hb dX2_paint_10 (lv_at hl 0 rfl) ?_
  refine lv_aload_n hx hb dX2_paint_12 rfl (lv_at hl 1 rfl) ?_
  refine va_get (D := (dC, dI)) (ci := 2) (v := .ref cN) (C := RX2) (T := TX2) (N := 15) hx hb hts td_fX2 hown hK hP 0 rfl rfl 4 (by decide) (hts (.fieldLink RX2 61 "TileDesk$Picture" "nearest" "[I") (td_i3 (List.mem_of_getElem? (i := 8) rfl))) (fun _ h9 => h9) rfl dX2_paint_13 ?_
  refine lv_iload_n hx hb dX2_paint_16 rfl (lv_at hl 2 rfl) ?_
  refine td_iald hx hb hK hP 2 0 t rfl rfl rfl (by omega) (by omega) dX2_paint_17 ?_
  refine td_ti (nI n0) (hn0) ?_
  refine lv_icmp_gt (tgt := 22) hx hb dX2_paint_18 (by decide) (fun c18 => ?_) (fun c18 => ?_)
  · have hlt2 : n0 < nr := (nI_ltI (a := n0) (b := nr) (by omega) (by omega)).mp c18
    refine lv_iload_n hx hb dX2_paint_22 rfl (lv_at hl 3 rfl) ?_
    refine lv_aload_n hx hb dX2_paint_23 rfl (lv_at hl 1 rfl) ?_
    refine va_get (D := (dC, dI)) (ci := 2) (v := .ref qH) (C := RX2) (T := TX2) (N := 15) hx hb hts td_fX2 hown hK hP 0 rfl rfl 7 (by decide) (hts (.fieldLink RX2 21 "TileDesk$Picture" "shape" "LTileDesk$Shape;") (td_i3 (List.mem_of_getElem? (i := 11) rfl))) (fun _ h9 => h9) rfl dX2_paint_24 ?_
    refine td_csl (va_runV (As := []) (rest := [.int (nI T)]) ⟨hx, hb, hml, hown, hts⟩ (td_lightHere l dC dI cI cJ cZ qH aX aY aR aL aW vX vY vR vL vW) (cwV 0 hts (td_gV (td_i10 (List.mem_of_getElem? (i := 10) rfl)) (td_i10 (List.mem_of_getElem? (i := 11) rfl)) (td_i10 (List.mem_of_getElem? (i := 12) rfl)) (td_i1 (List.mem_of_getElem? (i := 2) rfl)) (td_i10 (List.mem_of_getElem? (i := 13) rfl))) rfl rfl rfl (by decide +kernel) ⟨(Nat.le_of_ble_eq_true rfl), (Nat.le_of_ble_eq_true rfl)⟩) (td_pRV hK hZ hP [3, 4, 5, 6, 7, 8] rfl (va_recv hK hP (ci := 0) (q0 := 3) rfl rfl)) rfl rfl hl.1 rfl (lv_room (Nat.le_of_ble_eq_true rfl)) dX2_paint_27 ⟨Nat.zero_le _, Nat.zero_le _⟩) ?_
    refine td_tl (lN lt) (hL) ?_
    refine td_csi (va_runSN (As := [.int (nI T), .long (lN lt)]) (rest := []) ⟨hx, hb, hml, hown, hts⟩ (td_litColour l dC dI cI cJ cZ T lt (by omega) (by omega)) (⟨va_cnB 2 hts (td_gC (td_i10 (List.mem_of_getElem? (i := 15) rfl))) rfl rfl rfl (hZ.2 _ (List.mem_of_getElem? (i := 16) rfl)) (hts (.initialized RX3) (td_i1 (List.mem_of_getElem? (i := 1) rfl))) (by decide +kernel) ⟨(Nat.le_of_ble_eq_true rfl), (Nat.le_of_ble_eq_true rfl)⟩, (hts (.static yX3_litColour) (td_i10 (List.mem_of_getElem? (i := 14) rfl))), trivial⟩) (td_pRS hK hZ hP [] rfl) rfl rfl hl.1 rfl (lv_room (Nat.le_of_ble_eq_true rfl)) dX2_paint_30 ⟨Nat.zero_le _, Nat.zero_le _⟩) ?_
    refine lv_istore (lv' := [(5, .int (nI (td_lit T lt))), (4, .int (nI nr)), (0, .ref qU), (1, .int (nI t)), (2, .int (nI T)), (3, .int (nI C))]) hx hb dX2_paint_33 hl (by decide) rfl (fun ls hl => ?_)
    refine lv_iload_n hx hb dX2_paint_35 rfl (lv_at hl 5 rfl) ?_
    refine lv_sipush (v := 255) hx hb dX2_paint_36 (by decide) ?_
    refine lv_icmp_ne (tgt := 61) hx hb dX2_paint_39 (by decide) (fun c39 => ?_) (fun c39 => ?_)
    · have hC5 : C ≠ 255 := fun q => c39 (by rw [q]; rfl)
      refine lv_aload_n hx hb dX2_paint_61 rfl (lv_at hl 2 rfl) ?_
      refine va_get (D := (dC, dI)) (ci := 2) (v := .ref cC) (C := RX2) (T := TX2) (N := 15) hx hb hts td_fX2 hown hK hP 0 rfl rfl 3 (by decide) (hts (.fieldLink RX2 57 "TileDesk$Picture" "colours" "[I") (td_i3 (List.mem_of_getElem? (i := 7) rfl))) (fun _ h9 => h9) rfl dX2_paint_62 ?_
      refine lv_iload_n hx hb dX2_paint_65 rfl (lv_at hl 3 rfl) ?_
      refine lv_iload hx hb dX2_paint_66 (lv_at hl 0 rfl) ?_
      refine lv_aload_n hx hb dX2_paint_68 rfl (lv_at hl 2 rfl) ?_
      refine va_get (D := (dC, dI)) (ci := 2) (v := .ref cC) (C := RX2) (T := TX2) (N := 15) hx hb hts td_fX2 hown hK hP 0 rfl rfl 3 (by decide) (hts (.fieldLink RX2 57 "TileDesk$Picture" "colours" "[I") (td_i3 (List.mem_of_getElem? (i := 7) rfl))) (fun _ h9 => h9) rfl dX2_paint_69 ?_
      refine lv_iload_n hx hb dX2_paint_72 rfl (lv_at hl 3 rfl) ?_
      refine td_iald hx hb hK hP 1 0 t rfl rfl rfl (by omega) (by omega) dX2_paint_73 ?_
      refine td_ti (nI c0) (hc0) ?_
      refine lv_iload_n hx hb dX2_paint_74 rfl (lv_at hl 5 rfl) ?_
      refine td_csi (va_runSN (As := [.int (nI (td_lit T lt)), .int (nI c0), .int (nI C)]) (rest := [.int (nI t), .ref cC]) ⟨hx, hb, hml, hown, hts⟩ (td_mixedColour l dC dI cI cJ cZ (td_lit T lt) c0 C (td_lit_le hT hlt) (by omega) (by omega)) (⟨va_cnB 3 hts (td_gC (td_i10 (List.mem_of_getElem? (i := 19) rfl))) rfl rfl rfl (hZ.2 _ (List.mem_of_getElem? (i := 17) rfl)) (hts (.initialized RX3) (td_i1 (List.mem_of_getElem? (i := 1) rfl))) (by decide +kernel) ⟨(Nat.le_of_ble_eq_true rfl), (Nat.le_of_ble_eq_true rfl)⟩, (hts (.static yX3_mixedColour) (td_i10 (List.mem_of_getElem? (i := 18) rfl))), trivial⟩) (td_pRS hK hZ hP [] rfl) rfl rfl hl.1 rfl (lv_room (Nat.le_of_ble_eq_true rfl)) dX2_paint_75 ⟨Nat.zero_le _, Nat.zero_le _⟩) ?_
      refine td_iast hx hb hK hP hD hS 1 0 t rfl rfl rfl (by omega) (by omega) dX2_paint_78 (fun H locs hP hD hS => ?_)
      have hP : va_P (dC, dI) vwCl [(qU, .inr (2, [.int (nI w), .int (nI h), .int (nI ta), .ref cC, .ref cN, .ref cD, .ref qT, .ref qH, .int bg, .int bn, .int dt, .int lf, .int tp, .int rt, .int bm])), (cC, .inl (cI, wh, .inl (upd fc t (nI (td_mix (td_lit T lt) c0 C))))), (cN, .inl (cI, wh, .inl fn)), (qH, .inr (0, [.ref aX, .ref aY, .ref aR, .ref aL, .ref aW])), (aX, .inl (cJ, 3, .inr (.inl vX))), (aY, .inl (cJ, 3, .inr (.inl vY))), (aR, .inl (cJ, 3, .inr (.inl vR))), (aL, .inl (cJ, 3, .inr (.inl vL))), (aW, .inl (cJ, 3, .inr (.inl vW)))] H := hP
      have hD : va_D A [(qU, .inr (2, [.int (nI w), .int (nI h), .int (nI ta), .ref cC, .ref cN, .ref cD, .ref qT, .ref qH, .int bg, .int bn, .int dt, .int lf, .int tp, .int rt, .int bm])), (cC, .inl (cI, wh, .inl (upd fc t (nI (td_mix (td_lit T lt) c0 C))))), (cN, .inl (cI, wh, .inl fn)), (qH, .inr (0, [.ref aX, .ref aY, .ref aR, .ref aL, .ref aW])), (aX, .inl (cJ, 3, .inr (.inl vX))), (aY, .inl (cJ, 3, .inr (.inl vY))), (aR, .inl (cJ, 3, .inr (.inl vR))), (aL, .inl (cJ, 3, .inr (.inl vL))), (aW, .inl (cJ, 3, .inr (.inl vW)))] := hD
      have hP9 := hP.sub (ws' := [(qU, .inr (2, [.int (nI w), .int (nI h), .int (nI ta), .ref cC, .ref cN, .ref cD, .ref qT, .ref qH, .int bg, .int bn, .int dt, .int lf, .int tp, .int rt, .int bm])), (cC, .inl (cI, wh, .inl (upd fc t (nI (td_mix (td_lit T lt) c0 C))))), (cN, .inl (cI, wh, .inl fn)), (qH, .inr (0, [.ref aX, .ref aY, .ref aR, .ref aL, .ref aW])), (aX, .inl (cJ, 3, .inr (.inl vX))), (aY, .inl (cJ, 3, .inr (.inl vY))), (aR, .inl (cJ, 3, .inr (.inl vR))), (aL, .inl (cJ, 3, .inr (.inl vL))), (aW, .inl (cJ, 3, .inr (.inl vW)))]) [0, 1, 2, 3, 4, 5, 6, 7, 8] rfl
      have hD9 := hD.sub (ws' := [(qU, .inr (2, [.int (nI w), .int (nI h), .int (nI ta), .ref cC, .ref cN, .ref cD, .ref qT, .ref qH, .int bg, .int bn, .int dt, .int lf, .int tp, .int rt, .int bm])), (cC, .inl (cI, wh, .inl (upd fc t (nI (td_mix (td_lit T lt) c0 C))))), (cN, .inl (cI, wh, .inl fn)), (qH, .inr (0, [.ref aX, .ref aY, .ref aR, .ref aL, .ref aW])), (aX, .inl (cJ, 3, .inr (.inl vX))), (aY, .inl (cJ, 3, .inr (.inl vY))), (aR, .inl (cJ, 3, .inr (.inl vR))), (aL, .inl (cJ, 3, .inr (.inl vL))), (aW, .inl (cJ, 3, .inr (.inl vW)))]) [0, 1, 2, 3, 4, 5, 6, 7, 8] (by decide) rfl
      exact td_rwv (upd fc t (nI (td_mix (td_lit T lt) c0 C)), fn) hx hb hr hlocks hK (⟨fun z hz => ⟨pk_un hz, rfl⟩, by rw [td_pt2 hlt2 hC5]; exact pk_us, by rw [td_pt2 hlt2 hC5]; exact hn0⟩) hP9 hD9 hS dX2_paint_79
    · have hC5 : C = 255 := (nI_eq (a := C) (b := 255) (by omega) (by omega)).mp c39
      refine lv_aload_n hx hb dX2_paint_42 rfl (lv_at hl 2 rfl) ?_
      refine va_get (D := (dC, dI)) (ci := 2) (v := .ref cC) (C := RX2) (T := TX2) (N := 15) hx hb hts td_fX2 hown hK hP 0 rfl rfl 3 (by decide) (hts (.fieldLink RX2 57 "TileDesk$Picture" "colours" "[I") (td_i3 (List.mem_of_getElem? (i := 7) rfl))) (fun _ h9 => h9) rfl dX2_paint_43 ?_
      refine lv_iload_n hx hb dX2_paint_46 rfl (lv_at hl 3 rfl) ?_
      refine lv_iload hx hb dX2_paint_47 (lv_at hl 0 rfl) ?_
      refine td_iast hx hb hK hP hD hS 1 0 t rfl rfl rfl (by omega) (by omega) dX2_paint_49 (fun H locs hP hD hS => ?_)
      have hP : va_P (dC, dI) vwCl [(qU, .inr (2, [.int (nI w), .int (nI h), .int (nI ta), .ref cC, .ref cN, .ref cD, .ref qT, .ref qH, .int bg, .int bn, .int dt, .int lf, .int tp, .int rt, .int bm])), (cC, .inl (cI, wh, .inl (upd fc t (nI (td_lit T lt))))), (cN, .inl (cI, wh, .inl fn)), (qH, .inr (0, [.ref aX, .ref aY, .ref aR, .ref aL, .ref aW])), (aX, .inl (cJ, 3, .inr (.inl vX))), (aY, .inl (cJ, 3, .inr (.inl vY))), (aR, .inl (cJ, 3, .inr (.inl vR))), (aL, .inl (cJ, 3, .inr (.inl vL))), (aW, .inl (cJ, 3, .inr (.inl vW)))] H := hP
      have hD : va_D A [(qU, .inr (2, [.int (nI w), .int (nI h), .int (nI ta), .ref cC, .ref cN, .ref cD, .ref qT, .ref qH, .int bg, .int bn, .int dt, .int lf, .int tp, .int rt, .int bm])), (cC, .inl (cI, wh, .inl (upd fc t (nI (td_lit T lt))))), (cN, .inl (cI, wh, .inl fn)), (qH, .inr (0, [.ref aX, .ref aY, .ref aR, .ref aL, .ref aW])), (aX, .inl (cJ, 3, .inr (.inl vX))), (aY, .inl (cJ, 3, .inr (.inl vY))), (aR, .inl (cJ, 3, .inr (.inl vR))), (aL, .inl (cJ, 3, .inr (.inl vL))), (aW, .inl (cJ, 3, .inr (.inl vW)))] := hD
      refine lv_aload_n hx hb dX2_paint_50 rfl (lv_at hl 2 rfl) ?_
      refine va_get (D := (dC, dI)) (ci := 2) (v := .ref cN) (C := RX2) (T := TX2) (N := 15) hx hb hts td_fX2 hown hK hP 0 rfl rfl 4 (by decide) (hts (.fieldLink RX2 61 "TileDesk$Picture" "nearest" "[I") (td_i3 (List.mem_of_getElem? (i := 8) rfl))) (fun _ h9 => h9) rfl dX2_paint_51 ?_
      refine lv_iload_n hx hb dX2_paint_54 rfl (lv_at hl 3 rfl) ?_
      refine lv_iload hx hb dX2_paint_55 (lv_at hl 1 rfl) ?_
      refine td_iast hx hb hK hP hD hS 2 0 t rfl rfl rfl (by omega) (by omega) dX2_paint_57 (fun H locs hP hD hS => ?_)
      have hP : va_P (dC, dI) vwCl [(qU, .inr (2, [.int (nI w), .int (nI h), .int (nI ta), .ref cC, .ref cN, .ref cD, .ref qT, .ref qH, .int bg, .int bn, .int dt, .int lf, .int tp, .int rt, .int bm])), (cC, .inl (cI, wh, .inl (upd fc t (nI (td_lit T lt))))), (cN, .inl (cI, wh, .inl (upd fn t (nI nr)))), (qH, .inr (0, [.ref aX, .ref aY, .ref aR, .ref aL, .ref aW])), (aX, .inl (cJ, 3, .inr (.inl vX))), (aY, .inl (cJ, 3, .inr (.inl vY))), (aR, .inl (cJ, 3, .inr (.inl vR))), (aL, .inl (cJ, 3, .inr (.inl vL))), (aW, .inl (cJ, 3, .inr (.inl vW)))] H := hP
      have hD : va_D A [(qU, .inr (2, [.int (nI w), .int (nI h), .int (nI ta), .ref cC, .ref cN, .ref cD, .ref qT, .ref qH, .int bg, .int bn, .int dt, .int lf, .int tp, .int rt, .int bm])), (cC, .inl (cI, wh, .inl (upd fc t (nI (td_lit T lt))))), (cN, .inl (cI, wh, .inl (upd fn t (nI nr)))), (qH, .inr (0, [.ref aX, .ref aY, .ref aR, .ref aL, .ref aW])), (aX, .inl (cJ, 3, .inr (.inl vX))), (aY, .inl (cJ, 3, .inr (.inl vY))), (aR, .inl (cJ, 3, .inr (.inl vR))), (aL, .inl (cJ, 3, .inr (.inl vL))), (aW, .inl (cJ, 3, .inr (.inl vW)))] := hD
      refine lv_goto (tgt := 79) hx hb dX2_paint_58 (by decide) ?_
      have hP9 := hP.sub (ws' := [(qU, .inr (2, [.int (nI w), .int (nI h), .int (nI ta), .ref cC, .ref cN, .ref cD, .ref qT, .ref qH, .int bg, .int bn, .int dt, .int lf, .int tp, .int rt, .int bm])), (cC, .inl (cI, wh, .inl (upd fc t (nI (td_lit T lt))))), (cN, .inl (cI, wh, .inl (upd fn t (nI nr)))), (qH, .inr (0, [.ref aX, .ref aY, .ref aR, .ref aL, .ref aW])), (aX, .inl (cJ, 3, .inr (.inl vX))), (aY, .inl (cJ, 3, .inr (.inl vY))), (aR, .inl (cJ, 3, .inr (.inl vR))), (aL, .inl (cJ, 3, .inr (.inl vL))), (aW, .inl (cJ, 3, .inr (.inl vW)))]) [0, 1, 2, 3, 4, 5, 6, 7, 8] rfl
      have hD9 := hD.sub (ws' := [(qU, .inr (2, [.int (nI w), .int (nI h), .int (nI ta), .ref cC, .ref cN, .ref cD, .ref qT, .ref qH, .int bg, .int bn, .int dt, .int lf, .int tp, .int rt, .int bm])), (cC, .inl (cI, wh, .inl (upd fc t (nI (td_lit T lt))))), (cN, .inl (cI, wh, .inl (upd fn t (nI nr)))), (qH, .inr (0, [.ref aX, .ref aY, .ref aR, .ref aL, .ref aW])), (aX, .inl (cJ, 3, .inr (.inl vX))), (aY, .inl (cJ, 3, .inr (.inl vY))), (aR, .inl (cJ, 3, .inr (.inl vR))), (aL, .inl (cJ, 3, .inr (.inl vL))), (aW, .inl (cJ, 3, .inr (.inl vW)))]) [0, 1, 2, 3, 4, 5, 6, 7, 8] (by decide) rfl
      exact td_rwv (upd fc t (nI (td_lit T lt)), upd fn t (nI nr)) hx hb hr hlocks hK (⟨fun z hz => ⟨pk_un hz, pk_un hz⟩, by rw [td_pt1 hlt2 hC5]; exact pk_us, by rw [td_pt1 hlt2 hC5]; exact pk_us⟩) hP9 hD9 hS dX2_paint_79
  · have hge : nr ≤ n0 := by rcases Nat.lt_or_ge n0 nr with q | q; exact absurd (nI_lt q (by omega)) c18; exact q
    have hP9 := hP.sub (ws' := [(qU, .inr (2, [.int (nI w), .int (nI h), .int (nI ta), .ref cC, .ref cN, .ref cD, .ref qT, .ref qH, .int bg, .int bn, .int dt, .int lf, .int tp, .int rt, .int bm])), (cC, .inl (cI, wh, .inl fc)), (cN, .inl (cI, wh, .inl fn)), (qH, .inr (0, [.ref aX, .ref aY, .ref aR, .ref aL, .ref aW])), (aX, .inl (cJ, 3, .inr (.inl vX))), (aY, .inl (cJ, 3, .inr (.inl vY))), (aR, .inl (cJ, 3, .inr (.inl vR))), (aL, .inl (cJ, 3, .inr (.inl vL))), (aW, .inl (cJ, 3, .inr (.inl vW)))]) [0, 1, 2, 3, 4, 5, 6, 7, 8] rfl
    have hD9 := hD.sub (ws' := [(qU, .inr (2, [.int (nI w), .int (nI h), .int (nI ta), .ref cC, .ref cN, .ref cD, .ref qT, .ref qH, .int bg, .int bn, .int dt, .int lf, .int tp, .int rt, .int bm])), (cC, .inl (cI, wh, .inl fc)), (cN, .inl (cI, wh, .inl fn)), (qH, .inr (0, [.ref aX, .ref aY, .ref aR, .ref aL, .ref aW])), (aX, .inl (cJ, 3, .inr (.inl vX))), (aY, .inl (cJ, 3, .inr (.inl vY))), (aR, .inl (cJ, 3, .inr (.inl vR))), (aL, .inl (cJ, 3, .inr (.inl vL))), (aW, .inl (cJ, 3, .inr (.inl vW)))]) [0, 1, 2, 3, 4, 5, 6, 7, 8] (by decide) rfl
    exact td_rwv (fc, fn) hx hb hr hlocks hK (⟨fun z _ => ⟨rfl, rfl⟩, by rw [td_pt0 hge]; exact hc0, by rw [td_pt0 hge]; exact hn0⟩) hP9 hD9 hS dX2_paint_21
