set_option maxHeartbeats 4000000 in
set_option maxRecDepth 100000 in
/-- isColour -/
theorem tm_isColour (l : Launch) (dC : Nat → ClassId) (dI : Nat → Nat → Nat) (cI cJ cZ : ClassId) (v : Int32) : Met l yX4_isColour wsX4_isColour ({ frames := 0, cells := 0, slots := 0, locals := 0 }) (td_RP (dC, dI) vwCl (td_T cI cJ cZ) td_nl [] [.int v]) (vp_Si (fun r => r = td_bz (0 ≤ v ∧ v < 16777216))) 0 0 (fun _ => False) := by
  refine Met.ofW (cc := cX4_isColour) (maxL := 1) (ret := (some .boolean)) (by decide) rfl ?_
  intro p e s m args below meth c s₁ B hml hv
  obtain ⟨rfl, hP, hK, hZ⟩ := hv
  have hx := B.exec
  have hb := B.bytes
  have hr := B.returns
  have hts := atoms_spec (ws := wsX4_isColour) B.pre
  have hown : s.vm.findClass RX4 = some m.cls := findClass_of_methodNamed B.named
  have hlocks := B.notSynchronized
  have hP : va_P (dC, dI) vwCl [] s.heap := hP
  have hl := lv_entry ([.int v]) (n := 1) (Nat.le_of_ble_eq_true rfl)
  rw [lg_entry_eq]
  generalize (lg_sl ([.int v]) ++ List.replicate (1 - (lg_sl ([.int v])).length) Slot.unset).toArray = ls at hl ⊢
  have hl : lv_has ls 1 [(0, .int v)] := hl
  refine lv_iload_n hx hb dX4_isColour_0 rfl (lv_at hl 0 rfl) ?_
  refine lv_if_lt (tgt := 14) hx hb dX4_isColour_1 (by decide) (fun c1 => ?_) (fun c1 => ?_)
  · refine lv_iconst (v := 0) hx hb dX4_isColour_14 (by decide) ?_
    exact td_rri hx hb hr rfl hlocks (by rw [td_bz0 (fun z => absurd z.1 (Int32.not_le.mpr c1))]) dX4_isColour_15
  · refine lv_iload_n hx hb dX4_isColour_4 rfl (lv_at hl 0 rfl) ?_
    refine lv_ldc (own := RX4) (v := 16777216) hx hb hown (hts (.constant RX4 39 16777216) (td_i13 (List.mem_of_getElem? (i := 5) rfl))) dX4_isColour_5 ?_
    refine lv_icmp_ge (tgt := 14) hx hb dX4_isColour_7 (by decide) (fun c7 => ?_) (fun c7 => ?_)
    · refine lv_iconst (v := 0) hx hb dX4_isColour_14 (by decide) ?_
      exact td_rri hx hb hr rfl hlocks (by rw [td_bz0 (fun z => absurd z.2 (Int32.not_lt.mpr c7))]) dX4_isColour_15
    · refine lv_iconst (v := 1) hx hb dX4_isColour_10 (by decide) ?_
      refine lv_goto (tgt := 15) hx hb dX4_isColour_11 (by decide) ?_
      exact td_rri hx hb hr rfl hlocks (by rw [td_bz1 ⟨Int32.not_lt.mp c1, Int32.not_le.mp c7⟩]) dX4_isColour_15
set_option maxHeartbeats 4000000 in
set_option maxRecDepth 100000 in
/-- edge -/
theorem tm_edge (l : Launch) (dC : Nat → ClassId) (dI : Nat → Nat → Nat) (cI cJ cZ : ClassId) (qM : Nat) (mP : Nat) (mC : Nat) (mN : Nat) (mD : Nat) (w : Nat) (h : Nat) (n : Nat) (mb : Int32) (mg : Int32) (tk : Int32) (g : Nat → Int32) (a : Nat) (b : Nat) (x : Int64) (y : Int64) (ha : a + 1 < 7180) (hb1 : b + 1 < 7180) : Met l yX4_edge wsX4_edge ({ frames := 0, cells := 0, slots := 0, locals := 0 }) (td_RP (dC, dI) vwCl (td_T cI cJ cZ) td_nl [(qM, .inr (4, [.int 0, .int (nI w), .int (nI h), .int (nI n), .ref mP, .int mb, .int mg, .int tk, .ref mC, .ref mN, .ref mD])), (mP, .inl (cI, 7180, .inl g))] [.ref qM, .int (nI a), .int (nI b), .long x, .long y]) (vp_Sl (fun r => r = td_eL g a b x y)) 0 0 (fun _ => False) := by
  refine Met.ofW (cc := cX4_edge) (maxL := 7) (ret := (some .long)) (by decide) rfl ?_
  intro p e s m args below meth c s₁ B hml hv
  obtain ⟨rfl, hP, hK, hZ⟩ := hv
  have hx := B.exec
  have hb := B.bytes
  have hr := B.returns
  have hts := atoms_spec (ws := wsX4_edge) B.pre
  have hown : s.vm.findClass RX4 = some m.cls := findClass_of_methodNamed B.named
  have hlocks := B.notSynchronized
  have hP : va_P (dC, dI) vwCl [(qM, .inr (4, [.int 0, .int (nI w), .int (nI h), .int (nI n), .ref mP, .int mb, .int mg, .int tk, .ref mC, .ref mN, .ref mD])), (mP, .inl (cI, 7180, .inl g))] s.heap := hP
  have hl := lv_entry ([.ref qM, .int (nI a), .int (nI b), .long x, .long y]) (n := 7) (Nat.le_of_ble_eq_true rfl)
  rw [lg_entry_eq]
  generalize (lg_sl ([.ref qM, .int (nI a), .int (nI b), .long x, .long y]) ++ List.replicate (7 - (lg_sl ([.ref qM, .int (nI a), .int (nI b), .long x, .long y])).length) Slot.unset).toArray = ls at hl ⊢
  have hl : lv_has ls 7 [(0, .ref qM), (1, .int (nI a)), (2, .int (nI b)), (3, .long x), (5, .long y)] := hl
  refine lv_aload_n hx hb dX4_edge_0 rfl (lv_at hl 0 rfl) ?_
  refine va_get (D := (dC, dI)) (ci := 4) (v := .ref mP) (C := RX4) (T := TX4) (N := 11) hx hb hts td_fX4 hown hK hP 0 rfl rfl 4 (by decide) (hts (.fieldLink RX4 7 "TileDeskModel" "pieces" "[I") (td_i12 (List.mem_of_getElem? (i := 3) rfl))) (fun _ h9 => h9) rfl dX4_edge_1 ?_
  refine lv_iload_n hx hb dX4_edge_4 rfl (lv_at hl 2 rfl) ?_
  refine td_iald hx hb hK hP 1 0 b rfl rfl rfl (by omega) (by decide) dX4_edge_5 ?_
  refine lv_aload_n hx hb dX4_edge_6 rfl (lv_at hl 0 rfl) ?_
  refine va_get (D := (dC, dI)) (ci := 4) (v := .ref mP) (C := RX4) (T := TX4) (N := 11) hx hb hts td_fX4 hown hK hP 0 rfl rfl 4 (by decide) (hts (.fieldLink RX4 7 "TileDeskModel" "pieces" "[I") (td_i12 (List.mem_of_getElem? (i := 3) rfl))) (fun _ h9 => h9) rfl dX4_edge_7 ?_
  refine lv_iload_n hx hb dX4_edge_10 rfl (lv_at hl 1 rfl) ?_
  refine td_iald hx hb hK hP 1 0 a rfl rfl rfl (by omega) (by decide) dX4_edge_11 ?_
  refine lv_isub hx hb dX4_edge_12 ?_
  refine lv_i2l (v := ((g b) - (g a)).toInt64) hx hb dX4_edge_13 rfl ?_
  refine lv_lload hx hb dX4_edge_14 (lv_at hl 4 rfl) ?_
  refine lv_aload_n hx hb dX4_edge_16 rfl (lv_at hl 0 rfl) ?_
  refine va_get (D := (dC, dI)) (ci := 4) (v := .ref mP) (C := RX4) (T := TX4) (N := 11) hx hb hts td_fX4 hown hK hP 0 rfl rfl 4 (by decide) (hts (.fieldLink RX4 7 "TileDeskModel" "pieces" "[I") (td_i12 (List.mem_of_getElem? (i := 3) rfl))) (fun _ h9 => h9) rfl dX4_edge_17 ?_
  refine lv_iload_n hx hb dX4_edge_20 rfl (lv_at hl 1 rfl) ?_
  refine lv_iconst (v := 1) hx hb dX4_edge_21 (by decide) ?_
  refine lv_iadd hx hb dX4_edge_22 ?_
  refine td_ti (nI (a + 1)) (nI_add a 1) ?_
  refine td_iald hx hb hK hP 1 0 (a + 1) rfl rfl rfl (by omega) (by decide) dX4_edge_23 ?_
  refine lv_i2l (v := (g (a + 1)).toInt64) hx hb dX4_edge_24 rfl ?_
  refine lv_lsub hx hb dX4_edge_25 ?_
  refine lv_lmul hx hb dX4_edge_26 ?_
  refine lv_aload_n hx hb dX4_edge_27 rfl (lv_at hl 0 rfl) ?_
  refine va_get (D := (dC, dI)) (ci := 4) (v := .ref mP) (C := RX4) (T := TX4) (N := 11) hx hb hts td_fX4 hown hK hP 0 rfl rfl 4 (by decide) (hts (.fieldLink RX4 7 "TileDeskModel" "pieces" "[I") (td_i12 (List.mem_of_getElem? (i := 3) rfl))) (fun _ h9 => h9) rfl dX4_edge_28 ?_
  refine lv_iload_n hx hb dX4_edge_31 rfl (lv_at hl 2 rfl) ?_
  refine lv_iconst (v := 1) hx hb dX4_edge_32 (by decide) ?_
  refine lv_iadd hx hb dX4_edge_33 ?_
  refine td_ti (nI (b + 1)) (nI_add b 1) ?_
  refine td_iald hx hb hK hP 1 0 (b + 1) rfl rfl rfl (by omega) (by decide) dX4_edge_34 ?_
  refine lv_aload_n hx hb dX4_edge_35 rfl (lv_at hl 0 rfl) ?_
  refine va_get (D := (dC, dI)) (ci := 4) (v := .ref mP) (C := RX4) (T := TX4) (N := 11) hx hb hts td_fX4 hown hK hP 0 rfl rfl 4 (by decide) (hts (.fieldLink RX4 7 "TileDeskModel" "pieces" "[I") (td_i12 (List.mem_of_getElem? (i := 3) rfl))) (fun _ h9 => h9) rfl dX4_edge_36 ?_
  refine lv_iload_n hx hb dX4_edge_39 rfl (lv_at hl 1 rfl) ?_
  refine lv_iconst (v := 1) hx hb dX4_edge_40 (by decide) ?_
  refine lv_iadd hx hb dX4_edge_41 ?_
  refine td_ti (nI (a + 1)) (nI_add a 1) ?_
  refine td_iald hx hb hK hP 1 0 (a + 1) rfl rfl rfl (by omega) (by decide) dX4_edge_42 ?_
  refine lv_isub hx hb dX4_edge_43 ?_
  refine lv_i2l (v := ((g (b + 1)) - (g (a + 1))).toInt64) hx hb dX4_edge_44 rfl ?_
  refine lv_lload_n hx hb dX4_edge_45 rfl (lv_at hl 3 rfl) ?_
  refine lv_aload_n hx hb dX4_edge_46 rfl (lv_at hl 0 rfl) ?_
  refine va_get (D := (dC, dI)) (ci := 4) (v := .ref mP) (C := RX4) (T := TX4) (N := 11) hx hb hts td_fX4 hown hK hP 0 rfl rfl 4 (by decide) (hts (.fieldLink RX4 7 "TileDeskModel" "pieces" "[I") (td_i12 (List.mem_of_getElem? (i := 3) rfl))) (fun _ h9 => h9) rfl dX4_edge_47 ?_
  refine lv_iload_n hx hb dX4_edge_50 rfl (lv_at hl 1 rfl) ?_
  refine td_iald hx hb hK hP 1 0 a rfl rfl rfl (by omega) (by decide) dX4_edge_51 ?_
  refine lv_i2l (v := (g a).toInt64) hx hb dX4_edge_52 rfl ?_
  refine lv_lsub hx hb dX4_edge_53 ?_
  refine lv_lmul hx hb dX4_edge_54 ?_
  refine lv_lsub hx hb dX4_edge_55 ?_
  exact td_rrl hx hb hr hlocks (rfl) dX4_edge_56
set_option maxHeartbeats 4000000 in
set_option maxRecDepth 100000 in
/-- area -/
theorem tm_area (l : Launch) (dC : Nat → ClassId) (dI : Nat → Nat → Nat) (cI cJ cZ : ClassId) (qM : Nat) (mP : Nat) (mC : Nat) (mN : Nat) (mD : Nat) (w : Nat) (h : Nat) (n : Nat) (mb : Int32) (mg : Int32) (tk : Int32) (g : Nat → Int32) (a : Nat) (ha : a + 9 < 7180) : Met l yX4_area wsX4_area ({ frames := 1, cells := 0, slots := 0, locals := 26 }) (td_RP (dC, dI) vwCl (td_T cI cJ cZ) td_nl [(qM, .inr (4, [.int 0, .int (nI w), .int (nI h), .int (nI n), .ref mP, .int mb, .int mg, .int tk, .ref mC, .ref mN, .ref mD])), (mP, .inl (cI, 7180, .inl g))] [.ref qM, .int (nI a)]) (vp_Sl (fun r => r = td_AL g a)) 0 0 (fun _ => False) := by
  refine Met.ofW (cc := cX4_area) (maxL := 2) (ret := (some .long)) (by decide) rfl ?_
  intro p e s m args below meth c s₁ B hml hv
  obtain ⟨rfl, hP, hK, hZ⟩ := hv
  have hx := B.exec
  have hb := B.bytes
  have hr := B.returns
  have hts := atoms_spec (ws := wsX4_area) B.pre
  have hown : s.vm.findClass RX4 = some m.cls := findClass_of_methodNamed B.named
  have hlocks := B.notSynchronized
  have hP : va_P (dC, dI) vwCl [(qM, .inr (4, [.int 0, .int (nI w), .int (nI h), .int (nI n), .ref mP, .int mb, .int mg, .int tk, .ref mC, .ref mN, .ref mD])), (mP, .inl (cI, 7180, .inl g))] s.heap := hP
  have hl := lv_entry ([.ref qM, .int (nI a)]) (n := 2) (Nat.le_of_ble_eq_true rfl)
  rw [lg_entry_eq]
  generalize (lg_sl ([.ref qM, .int (nI a)]) ++ List.replicate (2 - (lg_sl ([.ref qM, .int (nI a)])).length) Slot.unset).toArray = ls at hl ⊢
  have hl : lv_has ls 2 [(0, .ref qM), (1, .int (nI a))] := hl
  refine lv_aload_n hx hb dX4_area_0 rfl (lv_at hl 0 rfl) ?_
  refine lv_iload_n hx hb dX4_area_1 rfl (lv_at hl 1 rfl) ?_
  refine lv_iload_n hx hb dX4_area_2 rfl (lv_at hl 1 rfl) ?_
  refine lv_iconst (v := 4) hx hb dX4_area_3 (by decide) ?_
  refine lv_iadd hx hb dX4_area_4 ?_
  refine td_ti (nI (a + 4)) (nI_add a 4) ?_
  refine lv_aload_n hx hb dX4_area_5 rfl (lv_at hl 0 rfl) ?_
  refine va_get (D := (dC, dI)) (ci := 4) (v := .ref mP) (C := RX4) (T := TX4) (N := 11) hx hb hts td_fX4 hown hK hP 0 rfl rfl 4 (by decide) (hts (.fieldLink RX4 7 "TileDeskModel" "pieces" "[I") (td_i12 (List.mem_of_getElem? (i := 3) rfl))) (fun _ h9 => h9) rfl dX4_area_6 ?_
  refine lv_iload_n hx hb dX4_area_9 rfl (lv_at hl 1 rfl) ?_
  refine lv_bipush (v := 8) hx hb dX4_area_10 (by decide) ?_
  refine lv_iadd hx hb dX4_area_12 ?_
  refine td_ti (nI (a + 8)) (nI_add a 8) ?_
  refine td_iald hx hb hK hP 1 0 (a + 8) rfl rfl rfl (by omega) (by decide) dX4_area_13 ?_
  refine lv_i2l (v := (g (a + 8)).toInt64) hx hb dX4_area_14 rfl ?_
  refine lv_aload_n hx hb dX4_area_15 rfl (lv_at hl 0 rfl) ?_
  refine va_get (D := (dC, dI)) (ci := 4) (v := .ref mP) (C := RX4) (T := TX4) (N := 11) hx hb hts td_fX4 hown hK hP 0 rfl rfl 4 (by decide) (hts (.fieldLink RX4 7 "TileDeskModel" "pieces" "[I") (td_i12 (List.mem_of_getElem? (i := 3) rfl))) (fun _ h9 => h9) rfl dX4_area_16 ?_
  refine lv_iload_n hx hb dX4_area_19 rfl (lv_at hl 1 rfl) ?_
  refine lv_bipush (v := 9) hx hb dX4_area_20 (by decide) ?_
  refine lv_iadd hx hb dX4_area_22 ?_
  refine td_ti (nI (a + 9)) (nI_add a 9) ?_
  refine td_iald hx hb hK hP 1 0 (a + 9) rfl rfl rfl (by omega) (by decide) dX4_area_23 ?_
  refine lv_i2l (v := (g (a + 9)).toInt64) hx hb dX4_area_24 rfl ?_
  refine td_csl (va_runV (As := [.int (nI a), .int (nI (a + 4)), .long (g (a + 8)).toInt64, .long (g (a + 9)).toInt64]) (rest := []) ⟨hx, hb, hml, hown, hts⟩ (tm_edge l dC dI cI cJ cZ qM mP mC mN mD w h n mb mg tk g a (a + 4) (g (a + 8)).toInt64 (g (a + 9)).toInt64 (by omega) (by omega)) (cwV 4 hts (td_gV (td_i12 (List.mem_of_getElem? (i := 23) rfl)) (td_i13 (List.mem_of_getElem? (i := 0) rfl)) (td_i15 (List.mem_of_getElem? (i := 17) rfl)) (td_i1 (List.mem_of_getElem? (i := 6) rfl)) (td_i13 (List.mem_of_getElem? (i := 1) rfl))) rfl rfl rfl (by decide +kernel) ⟨(Nat.le_of_ble_eq_true rfl), (Nat.le_of_ble_eq_true rfl)⟩) (td_pRV hK hZ hP [0, 1] rfl (va_recv hK hP (ci := 4) (q0 := 0) rfl rfl)) rfl rfl hl.1 rfl (lv_room (Nat.le_of_ble_eq_true rfl)) dX4_area_25 ⟨Nat.zero_le _, Nat.zero_le _⟩) ?_
  exact td_rrl hx hb hr hlocks (rfl) dX4_area_28
set_option maxHeartbeats 4000000 in
set_option maxRecDepth 100000 in
/-- holds -/
theorem tm_holds (l : Launch) (dC : Nat → ClassId) (dI : Nat → Nat → Nat) (cI cJ cZ : ClassId) (qM : Nat) (mP : Nat) (mC : Nat) (mN : Nat) (mD : Nat) (w : Nat) (h : Nat) (n : Nat) (mb : Int32) (mg : Int32) (tk : Int32) (g : Nat → Int32) (a : Nat) (b : Nat) (x : Int64) (y : Int64) (ha : a + 1 < 7180) (hb1 : b + 1 < 7180) : Met l yX4_holds wsX4_holds ({ frames := 1, cells := 0, slots := 0, locals := 26 }) (td_RP (dC, dI) vwCl (td_T cI cJ cZ) td_nl [(qM, .inr (4, [.int 0, .int (nI w), .int (nI h), .int (nI n), .ref mP, .int mb, .int mg, .int tk, .ref mC, .ref mN, .ref mD])), (mP, .inl (cI, 7180, .inl g))] [.ref qM, .int (nI a), .int (nI b), .long x, .long y]) (vp_Si (fun r => r = td_bz (0 < td_eL g a b x y ∨ td_eL g a b x y = 0 ∧ (g (b + 1) < g (a + 1) ∨ g (b + 1) = g (a + 1) ∧ g a < g b)))) 0 0 (fun _ => False) := by
  refine Met.ofW (cc := cX4_holds) (maxL := 10) (ret := (some .boolean)) (by decide) rfl ?_
  intro p e s m args below meth c s₁ B hml hv
  obtain ⟨rfl, hP, hK, hZ⟩ := hv
  have hx := B.exec
  have hb := B.bytes
  have hr := B.returns
  have hts := atoms_spec (ws := wsX4_holds) B.pre
  have hown : s.vm.findClass RX4 = some m.cls := findClass_of_methodNamed B.named
  have hlocks := B.notSynchronized
  have hP : va_P (dC, dI) vwCl [(qM, .inr (4, [.int 0, .int (nI w), .int (nI h), .int (nI n), .ref mP, .int mb, .int mg, .int tk, .ref mC, .ref mN, .ref mD])), (mP, .inl (cI, 7180, .inl g))] s.heap := hP
  have hl := lv_entry ([.ref qM, .int (nI a), .int (nI b), .long x, .long y]) (n := 10) (Nat.le_of_ble_eq_true rfl)
  rw [lg_entry_eq]
  generalize (lg_sl ([.ref qM, .int (nI a), .int (nI b), .long x, .long y]) ++ List.replicate (10 - (lg_sl ([.ref qM, .int (nI a), .int (nI b), .long x, .long y])).length) Slot.unset).toArray = ls at hl ⊢
  have hl : lv_has ls 10 [(0, .ref qM), (1, .int (nI a)), (2, .int (nI b)), (3, .long x), (5, .long y)] := hl
  refine lv_aload_n hx hb dX4_holds_0 rfl (lv_at hl 0 rfl) ?_
  refine lv_iload_n hx hb dX4_holds_1 rfl (lv_at hl 1 rfl) ?_
  refine lv_iload_n hx hb dX4_holds_2 rfl (lv_at hl 2 rfl) ?_
  refine lv_lload_n hx hb dX4_holds_3 rfl (lv_at hl 3 rfl) ?_
  refine lv_lload hx hb dX4_holds_4 (lv_at hl 4 rfl) ?_
  refine td_csl (va_runV (As := [.int (nI a), .int (nI b), .long x, .long y]) (rest := []) ⟨hx, hb, hml, hown, hts⟩ (tm_edge l dC dI cI cJ cZ qM mP mC mN mD w h n mb mg tk g a b x y (by omega) (by omega)) (cwV 4 hts (td_gV (td_i12 (List.mem_of_getElem? (i := 23) rfl)) (td_i13 (List.mem_of_getElem? (i := 0) rfl)) (td_i15 (List.mem_of_getElem? (i := 17) rfl)) (td_i1 (List.mem_of_getElem? (i := 6) rfl)) (td_i13 (List.mem_of_getElem? (i := 1) rfl))) rfl rfl rfl (by decide +kernel) ⟨(Nat.le_of_ble_eq_true rfl), (Nat.le_of_ble_eq_true rfl)⟩) (td_pRV hK hZ hP [0, 1] rfl (va_recv hK hP (ci := 4) (q0 := 0) rfl rfl)) rfl rfl hl.1 rfl (lv_room (Nat.le_of_ble_eq_true rfl)) dX4_holds_6 ⟨Nat.zero_le _, Nat.zero_le _⟩) ?_
  refine lv_lstore (lv' := [(7, .long (td_eL g a b x y)), (0, .ref qM), (1, .int (nI a)), (2, .int (nI b)), (3, .long x), (5, .long y)]) hx hb dX4_holds_9 hl (by decide) rfl (fun ls hl => ?_)
  refine lv_aload_n hx hb dX4_holds_11 rfl (lv_at hl 1 rfl) ?_
  refine va_get (D := (dC, dI)) (ci := 4) (v := .ref mP) (C := RX4) (T := TX4) (N := 11) hx hb hts td_fX4 hown hK hP 0 rfl rfl 4 (by decide) (hts (.fieldLink RX4 7 "TileDeskModel" "pieces" "[I") (td_i12 (List.mem_of_getElem? (i := 3) rfl))) (fun _ h9 => h9) rfl dX4_holds_12 ?_
  refine lv_iload_n hx hb dX4_holds_15 rfl (lv_at hl 3 rfl) ?_
  refine lv_iconst (v := 1) hx hb dX4_holds_16 (by decide) ?_
  refine lv_iadd hx hb dX4_holds_17 ?_
  refine td_ti (nI (b + 1)) (nI_add b 1) ?_
  refine td_iald hx hb hK hP 1 0 (b + 1) rfl rfl rfl (by omega) (by decide) dX4_holds_18 ?_
  refine lv_aload_n hx hb dX4_holds_19 rfl (lv_at hl 1 rfl) ?_
  refine va_get (D := (dC, dI)) (ci := 4) (v := .ref mP) (C := RX4) (T := TX4) (N := 11) hx hb hts td_fX4 hown hK hP 0 rfl rfl 4 (by decide) (hts (.fieldLink RX4 7 "TileDeskModel" "pieces" "[I") (td_i12 (List.mem_of_getElem? (i := 3) rfl))) (fun _ h9 => h9) rfl dX4_holds_20 ?_
  refine lv_iload_n hx hb dX4_holds_23 rfl (lv_at hl 2 rfl) ?_
  refine lv_iconst (v := 1) hx hb dX4_holds_24 (by decide) ?_
  refine lv_iadd hx hb dX4_holds_25 ?_
  refine td_ti (nI (a + 1)) (nI_add a 1) ?_
  refine td_iald hx hb hK hP 1 0 (a + 1) rfl rfl rfl (by omega) (by decide) dX4_holds_26 ?_
  refine lv_icmp_lt (tgt := 64) hx hb dX4_holds_27 (by decide) (fun c27 => ?_) (fun c27 => ?_)
  · refine lv_iconst (v := 1) hx hb dX4_holds_64 (by decide) ?_
    refine lv_goto (tgt := 69) hx hb dX4_holds_65 (by decide) ?_
    refine lv_istore (lv' := [(9, .int 1), (7, .long (td_eL g a b x y)), (0, .ref qM), (1, .int (nI a)), (2, .int (nI b)), (3, .long x), (5, .long y)]) hx hb dX4_holds_69 hl (by decide) rfl (fun ls hl => ?_)
    refine lv_lload hx hb dX4_holds_71 (lv_at hl 1 rfl) ?_
    refine lv_lconst (v := 0) hx hb dX4_holds_73 (by decide) ?_
    refine W.lcmp hx hb dX4_holds_74 ?_
    refine td_lgt (tgt := 90) hx hb dX4_holds_75 (by decide) (fun c75 => ?_) (fun c75 => ?_)
    · refine lv_iconst (v := 1) hx hb dX4_holds_90 (by decide) ?_
      refine lv_goto (tgt := 95) hx hb dX4_holds_91 (by decide) ?_
      exact td_rri hx hb hr rfl hlocks (by rw [td_bz1 (Or.inl c75)]) dX4_holds_95
    · refine lv_lload hx hb dX4_holds_78 (lv_at hl 1 rfl) ?_
      refine lv_lconst (v := 0) hx hb dX4_holds_80 (by decide) ?_
      refine W.lcmp hx hb dX4_holds_81 ?_
      refine td_lne (tgt := 94) hx hb dX4_holds_82 (by decide) (fun c82 => ?_) (fun c82 => ?_)
      · refine lv_iconst (v := 0) hx hb dX4_holds_94 (by decide) ?_
        exact td_rri hx hb hr rfl hlocks (by rw [td_bz0 (by rintro (z | ⟨z, -⟩); exact c75 z; exact c82 z)]) dX4_holds_95
      · refine lv_iload hx hb dX4_holds_85 (lv_at hl 0 rfl) ?_
        refine lv_if_eq (tgt := 94) hx hb dX4_holds_87 (by decide) (fun c87 => ?_) (fun c87 => ?_)
        · exact absurd c87 (by decide)
        · refine lv_iconst (v := 1) hx hb dX4_holds_90 (by decide) ?_
          refine lv_goto (tgt := 95) hx hb dX4_holds_91 (by decide) ?_
          exact td_rri hx hb hr rfl hlocks (by rw [td_bz1 (Or.inr ⟨c82, Or.inl c27⟩)]) dX4_holds_95
  · refine lv_aload_n hx hb dX4_holds_30 rfl (lv_at hl 1 rfl) ?_
    refine va_get (D := (dC, dI)) (ci := 4) (v := .ref mP) (C := RX4) (T := TX4) (N := 11) hx hb hts td_fX4 hown hK hP 0 rfl rfl 4 (by decide) (hts (.fieldLink RX4 7 "TileDeskModel" "pieces" "[I") (td_i12 (List.mem_of_getElem? (i := 3) rfl))) (fun _ h9 => h9) rfl dX4_holds_31 ?_
    refine lv_iload_n hx hb dX4_holds_34 rfl (lv_at hl 3 rfl) ?_
    refine lv_iconst (v := 1) hx hb dX4_holds_35 (by decide) ?_
    refine lv_iadd hx hb dX4_holds_36 ?_
    refine td_ti (nI (b + 1)) (nI_add b 1) ?_
    refine td_iald hx hb hK hP 1 0 (b + 1) rfl rfl rfl (by omega) (by decide) dX4_holds_37 ?_
    refine lv_aload_n hx hb dX4_holds_38 rfl (lv_at hl 1 rfl) ?_
    refine va_get (D := (dC, dI)) (ci := 4) (v := .ref mP) (C := RX4) (T := TX4) (N := 11) hx hb hts td_fX4 hown hK hP 0 rfl rfl 4 (by decide) (hts (.fieldLink RX4 7 "TileDeskModel" "pieces" "[I") (td_i12 (List.mem_of_getElem? (i := 3) rfl))) (fun _ h9 => h9) rfl dX4_holds_39 ?_
    refine lv_iload_n hx hb dX4_holds_42 rfl (lv_at hl 2 rfl) ?_
    refine lv_iconst (v := 1) hx hb dX4_holds_43 (by decide) ?_
    refine lv_iadd hx hb dX4_holds_44 ?_
    refine td_ti (nI (a + 1)) (nI_add a 1) ?_
    refine td_iald hx hb hK hP 1 0 (a + 1) rfl rfl rfl (by omega) (by decide) dX4_holds_45 ?_
    refine lv_icmp_ne (tgt := 68) hx hb dX4_holds_46 (by decide) (fun c46 => ?_) (fun c46 => ?_)
    · refine lv_iconst (v := 0) hx hb dX4_holds_68 (by decide) ?_
      refine lv_istore (lv' := [(9, .int 0), (7, .long (td_eL g a b x y)), (0, .ref qM), (1, .int (nI a)), (2, .int (nI b)), (3, .long x), (5, .long y)]) hx hb dX4_holds_69 hl (by decide) rfl (fun ls hl => ?_)
      refine lv_lload hx hb dX4_holds_71 (lv_at hl 1 rfl) ?_
      refine lv_lconst (v := 0) hx hb dX4_holds_73 (by decide) ?_
      refine W.lcmp hx hb dX4_holds_74 ?_
      refine td_lgt (tgt := 90) hx hb dX4_holds_75 (by decide) (fun c75 => ?_) (fun c75 => ?_)
      · refine lv_iconst (v := 1) hx hb dX4_holds_90 (by decide) ?_
        refine lv_goto (tgt := 95) hx hb dX4_holds_91 (by decide) ?_
        exact td_rri hx hb hr rfl hlocks (by rw [td_bz1 (Or.inl c75)]) dX4_holds_95
      · refine lv_lload hx hb dX4_holds_78 (lv_at hl 1 rfl) ?_
        refine lv_lconst (v := 0) hx hb dX4_holds_80 (by decide) ?_
        refine W.lcmp hx hb dX4_holds_81 ?_
        refine td_lne (tgt := 94) hx hb dX4_holds_82 (by decide) (fun c82 => ?_) (fun c82 => ?_)
        · refine lv_iconst (v := 0) hx hb dX4_holds_94 (by decide) ?_
          exact td_rri hx hb hr rfl hlocks (by rw [td_bz0 (by rintro (z | ⟨z, -⟩); exact c75 z; exact c82 z)]) dX4_holds_95
        · refine lv_iload hx hb dX4_holds_85 (lv_at hl 0 rfl) ?_
          refine lv_if_eq (tgt := 94) hx hb dX4_holds_87 (by decide) (fun c87 => ?_) (fun c87 => ?_)
          · refine lv_iconst (v := 0) hx hb dX4_holds_94 (by decide) ?_
            exact td_rri hx hb hr rfl hlocks (by rw [td_bz0 (by rintro (z | ⟨-, z | ⟨z, z2⟩⟩); exact c75 z; exact c27 z; exact c46 z)]) dX4_holds_95
          · exact absurd c87 (by decide)
    · refine lv_aload_n hx hb dX4_holds_49 rfl (lv_at hl 1 rfl) ?_
      refine va_get (D := (dC, dI)) (ci := 4) (v := .ref mP) (C := RX4) (T := TX4) (N := 11) hx hb hts td_fX4 hown hK hP 0 rfl rfl 4 (by decide) (hts (.fieldLink RX4 7 "TileDeskModel" "pieces" "[I") (td_i12 (List.mem_of_getElem? (i := 3) rfl))) (fun _ h9 => h9) rfl dX4_holds_50 ?_
      refine lv_iload_n hx hb dX4_holds_53 rfl (lv_at hl 3 rfl) ?_
      refine td_iald hx hb hK hP 1 0 b rfl rfl rfl (by omega) (by decide) dX4_holds_54 ?_
      refine lv_aload_n hx hb dX4_holds_55 rfl (lv_at hl 1 rfl) ?_
      refine va_get (D := (dC, dI)) (ci := 4) (v := .ref mP) (C := RX4) (T := TX4) (N := 11) hx hb hts td_fX4 hown hK hP 0 rfl rfl 4 (by decide) (hts (.fieldLink RX4 7 "TileDeskModel" "pieces" "[I") (td_i12 (List.mem_of_getElem? (i := 3) rfl))) (fun _ h9 => h9) rfl dX4_holds_56 ?_
      refine lv_iload_n hx hb dX4_holds_59 rfl (lv_at hl 2 rfl) ?_
      refine td_iald hx hb hK hP 1 0 a rfl rfl rfl (by omega) (by decide) dX4_holds_60 ?_
      refine lv_icmp_le (tgt := 68) hx hb dX4_holds_61 (by decide) (fun c61 => ?_) (fun c61 => ?_)
      · refine lv_iconst (v := 0) hx hb dX4_holds_68 (by decide) ?_
        refine lv_istore (lv' := [(9, .int 0), (7, .long (td_eL g a b x y)), (0, .ref qM), (1, .int (nI a)), (2, .int (nI b)), (3, .long x), (5, .long y)]) hx hb dX4_holds_69 hl (by decide) rfl (fun ls hl => ?_)
        refine lv_lload hx hb dX4_holds_71 (lv_at hl 1 rfl) ?_
        refine lv_lconst (v := 0) hx hb dX4_holds_73 (by decide) ?_
        refine W.lcmp hx hb dX4_holds_74 ?_
        refine td_lgt (tgt := 90) hx hb dX4_holds_75 (by decide) (fun c75 => ?_) (fun c75 => ?_)
        · refine lv_iconst (v := 1) hx hb dX4_holds_90 (by decide) ?_
          refine lv_goto (tgt := 95) hx hb dX4_holds_91 (by decide) ?_
          exact td_rri hx hb hr rfl hlocks (by rw [td_bz1 (Or.inl c75)]) dX4_holds_95
        · refine lv_lload hx hb dX4_holds_78 (lv_at hl 1 rfl) ?_
          refine lv_lconst (v := 0) hx hb dX4_holds_80 (by decide) ?_
          refine W.lcmp hx hb dX4_holds_81 ?_
          refine td_lne (tgt := 94) hx hb dX4_holds_82 (by decide) (fun c82 => ?_) (fun c82 => ?_)
          · refine lv_iconst (v := 0) hx hb dX4_holds_94 (by decide) ?_
            exact td_rri hx hb hr rfl hlocks (by rw [td_bz0 (by rintro (z | ⟨z, -⟩); exact c75 z; exact c82 z)]) dX4_holds_95
          · refine lv_iload hx hb dX4_holds_85 (lv_at hl 0 rfl) ?_
            refine lv_if_eq (tgt := 94) hx hb dX4_holds_87 (by decide) (fun c87 => ?_) (fun c87 => ?_)
            · refine lv_iconst (v := 0) hx hb dX4_holds_94 (by decide) ?_
              exact td_rri hx hb hr rfl hlocks (by rw [td_bz0 (by rintro (z | ⟨-, z | ⟨z, z2⟩⟩); exact c75 z; exact c27 z; exact absurd z2 (Int32.not_lt.mpr c61))]) dX4_holds_95
            · exact absurd c87 (by decide)
      · refine lv_iconst (v := 1) hx hb dX4_holds_64 (by decide) ?_
        refine lv_goto (tgt := 69) hx hb dX4_holds_65 (by decide) ?_
        refine lv_istore (lv' := [(9, .int 1), (7, .long (td_eL g a b x y)), (0, .ref qM), (1, .int (nI a)), (2, .int (nI b)), (3, .long x), (5, .long y)]) hx hb dX4_holds_69 hl (by decide) rfl (fun ls hl => ?_)
        refine lv_lload hx hb dX4_holds_71 (lv_at hl 1 rfl) ?_
        refine lv_lconst (v := 0) hx hb dX4_holds_73 (by decide) ?_
        refine W.lcmp hx hb dX4_holds_74 ?_
        refine td_lgt (tgt := 90) hx hb dX4_holds_75 (by decide) (fun c75 => ?_) (fun c75 => ?_)
        · refine lv_iconst (v := 1) hx hb dX4_holds_90 (by decide) ?_
          refine lv_goto (tgt := 95) hx hb dX4_holds_91 (by decide) ?_
          exact td_rri hx hb hr rfl hlocks (by rw [td_bz1 (Or.inl c75)]) dX4_holds_95
        · refine lv_lload hx hb dX4_holds_78 (lv_at hl 1 rfl) ?_
          refine lv_lconst (v := 0) hx hb dX4_holds_80 (by decide) ?_
          refine W.lcmp hx hb dX4_holds_81 ?_
          refine td_lne (tgt := 94) hx hb dX4_holds_82 (by decide) (fun c82 => ?_) (fun c82 => ?_)
          · refine lv_iconst (v := 0) hx hb dX4_holds_94 (by decide) ?_
            exact td_rri hx hb hr rfl hlocks (by rw [td_bz0 (by rintro (z | ⟨z, -⟩); exact c75 z; exact c82 z)]) dX4_holds_95
          · refine lv_iload hx hb dX4_holds_85 (lv_at hl 0 rfl) ?_
            refine lv_if_eq (tgt := 94) hx hb dX4_holds_87 (by decide) (fun c87 => ?_) (fun c87 => ?_)
            · exact absurd c87 (by decide)
            · refine lv_iconst (v := 1) hx hb dX4_holds_90 (by decide) ?_
              refine lv_goto (tgt := 95) hx hb dX4_holds_91 (by decide) ?_
              exact td_rri hx hb hr rfl hlocks (by rw [td_bz1 (Or.inr ⟨c82, Or.inr ⟨c46, Int32.not_le.mp c61⟩⟩)]) dX4_holds_95
set_option maxHeartbeats 4000000 in
set_option maxRecDepth 100000 in
/-- part -/
theorem tm_part (l : Launch) (dC : Nat → ClassId) (dI : Nat → Nat → Nat) (cI cJ cZ : ClassId) (C : Nat) (wi : Nat) (hC : C < 16777216) (hwi : wi < 3) : Met l yX4_part wsX4_part ({ frames := 0, cells := 0, slots := 0, locals := 0 }) (td_RP (dC, dI) vwCl (td_T cI cJ cZ) td_nl [] [.int (nI C), .int (nI wi)]) (vp_Si (fun r => r = nI (td_prt C wi))) 0 0 (fun _ => False) := by
  refine Met.ofW (cc := cX4_part) (maxL := 2) (ret := (some .int)) (by decide) rfl ?_
  intro p e s m args below meth c s₁ B hml hv
  obtain ⟨rfl, hP, hK, hZ⟩ := hv
  have hx := B.exec
  have hb := B.bytes
  have hr := B.returns
  have hts := atoms_spec (ws := wsX4_part) B.pre
  have hown : s.vm.findClass RX4 = some m.cls := findClass_of_methodNamed B.named
  have hlocks := B.notSynchronized
  have hP : va_P (dC, dI) vwCl [] s.heap := hP
  have hl := lv_entry ([.int (nI C), .int (nI wi)]) (n := 2) (Nat.le_of_ble_eq_true rfl)
  rw [lg_entry_eq]
  generalize (lg_sl ([.int (nI C), .int (nI wi)]) ++ List.replicate (2 - (lg_sl ([.int (nI C), .int (nI wi)])).length) Slot.unset).toArray = ls at hl ⊢
  have hl : lv_has ls 2 [(0, .int (nI C)), (1, .int (nI wi))] := hl
  refine lv_iload_n hx hb dX4_part_0 rfl (lv_at hl 1 rfl) ?_
  refine lv_if_ne (tgt := 11) hx hb dX4_part_1 (by decide) (fun c1 => ?_) (fun c1 => ?_)
  · have e0 : wi ≠ 0 := fun z => c1 (by rw [z]; rfl)
    refine lv_iload_n hx hb dX4_part_11 rfl (lv_at hl 1 rfl) ?_
    refine lv_iconst (v := 1) hx hb dX4_part_12 (by decide) ?_
    refine lv_icmp_ne (tgt := 28) hx hb dX4_part_13 (by decide) (fun c13 => ?_) (fun c13 => ?_)
    · have e1 : wi ≠ 1 := fun z => c13 (by rw [z]; rfl)
      refine lv_iload_n hx hb dX4_part_28 rfl (lv_at hl 0 rfl) ?_
      refine lv_sipush (v := 256) hx hb dX4_part_29 (by decide) ?_
      refine lv_irem hx hb dX4_part_32 (by decide) ?_
      refine td_ti (nI (C % 256)) (pk_rem (d := 256) (by omega) (by decide) (by decide)) ?_
      exact td_rri hx hb hr rfl hlocks (by unfold td_prt; rw [if_neg e0, if_neg e1]) dX4_part_33
    · have e1 : wi = 1 := (nI_eq (a := wi) (b := 1) (by omega) (by decide)).mp c13
      refine lv_iload_n hx hb dX4_part_16 rfl (lv_at hl 0 rfl) ?_
      refine lv_sipush (v := 256) hx hb dX4_part_17 (by decide) ?_
      refine lv_idiv hx hb dX4_part_20 (by decide) ?_
      refine td_ti (nI (C / 256)) (pk_div (d := 256) (by omega) (by decide) (by decide)) ?_
      refine lv_sipush (v := 256) hx hb dX4_part_21 (by decide) ?_
      refine lv_irem hx hb dX4_part_24 (by decide) ?_
      refine td_ti (nI (C / 256 % 256)) (pk_rem (d := 256) (by omega) (by decide) (by decide)) ?_
      refine lv_goto (tgt := 33) hx hb dX4_part_25 (by decide) ?_
      exact td_rri hx hb hr rfl hlocks (by unfold td_prt; rw [if_neg e0, if_pos e1]) dX4_part_33
  · have e0 : wi = 0 := (nI_eq (a := wi) (b := 0) (by omega) (by decide)).mp c1
    refine lv_iload_n hx hb dX4_part_4 rfl (lv_at hl 0 rfl) ?_
    refine lv_ldc (own := RX4) (v := 65536) hx hb hown (hts (.constant RX4 34 65536) (td_i12 (List.mem_of_getElem? (i := 15) rfl))) dX4_part_5 ?_
    refine lv_idiv hx hb dX4_part_7 (by decide) ?_
    refine td_ti (nI (C / 65536)) (pk_div (d := 65536) (by omega) (by decide) (by decide)) ?_
    refine lv_goto (tgt := 33) hx hb dX4_part_8 (by decide) ?_
    exact td_rri hx hb hr rfl hlocks (by unfold td_prt; rw [if_pos e0]) dX4_part_33
set_option maxHeartbeats 4000000 in
set_option maxRecDepth 100000 in
/-- over -/
theorem tm_over (l : Launch) (dC : Nat → ClassId) (dI : Nat → Nat → Nat) (cI cJ cZ : ClassId) (T : Nat) (Lt : Nat) (C : Nat) (O : Nat) (hT : T < 16777216) (hL : Lt ≤ 65536) (hC : C ≤ 255) (hO : O < 16777216) : Met l yX4_over wsX4_over ({ frames := 1, cells := 0, slots := 0, locals := 21 }) (td_RP (dC, dI) vwCl (td_T cI cJ cZ) td_nl [] [.int (nI T), .long (lN Lt), .int (nI C), .int (nI O)]) (vp_Si (fun r => r = nI (td_ov T Lt C O))) 0 0 (fun _ => False) := by
  refine Met.ofW (cc := cX4_over) (maxL := 9) (ret := (some .int)) (by decide) rfl ?_
  intro p e s m args below meth c s₁ B hml hv
  obtain ⟨rfl, hP, hK, hZ⟩ := hv
  have hx := B.exec
  have hb := B.bytes
  have hr := B.returns
  have hts := atoms_spec (ws := wsX4_over) B.pre
  have hown : s.vm.findClass RX4 = some m.cls := findClass_of_methodNamed B.named
  have hlocks := B.notSynchronized
  have hP : va_P (dC, dI) vwCl [] s.heap := hP
  have hl := lv_entry ([.int (nI T), .long (lN Lt), .int (nI C), .int (nI O)]) (n := 9) (Nat.le_of_ble_eq_true rfl)
  rw [lg_entry_eq]
  generalize (lg_sl ([.int (nI T), .long (lN Lt), .int (nI C), .int (nI O)]) ++ List.replicate (9 - (lg_sl ([.int (nI T), .long (lN Lt), .int (nI C), .int (nI O)])).length) Slot.unset).toArray = ls at hl ⊢
  have hl : lv_has ls 9 [(0, .int (nI T)), (1, .long (lN Lt)), (3, .int (nI C)), (4, .int (nI O))] := hl
  have h0 := td_v_le (n := T / 65536) (l := Lt) (by omega) hL
  have h1 := td_v_le (n := T / 256 % 256) (l := Lt) (by omega) hL
  have h2 := td_v_le (n := T % 256) (l := Lt) (by omega) hL
  refine lv_iconst (v := 0) hx hb dX4_over_0 (by decide) ?_
  refine lv_istore (lv' := [(5, .int 0), (0, .int (nI T)), (1, .long (lN Lt)), (3, .int (nI C)), (4, .int (nI O))]) hx hb dX4_over_1 hl (by decide) rfl (fun ls hl => ?_)
  refine lv_iconst (v := 0) hx hb dX4_over_3 (by decide) ?_
  refine lv_istore (lv' := [(6, .int 0), (5, .int 0), (0, .int (nI T)), (1, .long (lN Lt)), (3, .int (nI C)), (4, .int (nI O))]) hx hb dX4_over_4 hl (by decide) rfl (fun ls hl => ?_)
  refine lv_iload hx hb dX4_over_6 (lv_at hl 0 rfl) ?_
  refine lv_iconst (v := 3) hx hb dX4_over_8 (by decide) ?_
  refine lv_icmp_ge (tgt := 81) hx hb dX4_over_9 (by decide) (fun c9_1 => ?_) (fun c9_1 => ?_)
  · exact absurd c9_1 (by decide)
  · refine lv_iload_n hx hb dX4_over_12 rfl (lv_at hl 2 rfl) ?_
    refine lv_iload hx hb dX4_over_13 (lv_at hl 0 rfl) ?_
    refine td_csi (va_runS (As := [.int (nI T), .int 0]) (rest := []) ⟨hx, hb, hml, hown, hts⟩ (tm_part l dC dI cI cJ cZ T 0 (by omega) (by omega)) (va_cwS 2 hts (td_gS (td_i14 (List.mem_of_getElem? (i := 5) rfl)) (td_i14 (List.mem_of_getElem? (i := 6) rfl)) (td_i1 (List.mem_of_getElem? (i := 6) rfl)) (td_i14 (List.mem_of_getElem? (i := 7) rfl))) rfl rfl rfl (by decide +kernel) ⟨(Nat.le_of_ble_eq_true rfl), (Nat.le_of_ble_eq_true rfl)⟩) (td_pRS hK hZ hP [] rfl) rfl rfl hl.1 rfl (lv_room (Nat.le_of_ble_eq_true rfl)) dX4_over_15 ⟨Nat.zero_le _, Nat.zero_le _⟩) ?_
    refine td_ti (nI (T / 65536)) (rfl) ?_
    refine lv_i2l (v := (nI (T / 65536)).toInt64) hx hb dX4_over_18 rfl ?_
    refine td_tl (lN (T / 65536)) (nI_l (by omega)) ?_
    refine lv_lload_n hx hb dX4_over_19 rfl (lv_at hl 3 rfl) ?_
    refine lv_lmul hx hb dX4_over_20 ?_
    refine td_tl (lN ((T / 65536) * Lt)) (lN_mul _ _) ?_
    refine lv_ldc2 (own := RX4) (v := 65536) hx hb hown (hts (.constantLong RX4 58 65536) (td_i14 (List.mem_of_getElem? (i := 8) rfl))) dX4_over_21 ?_
    refine lv_ldiv hx hb dX4_over_24 (by decide) ?_
    refine td_tl (lN (td_v (T / 65536) Lt)) (pk_lDiv (b := 65536) (td_nb (by omega) hL) (by decide) (by decide)) ?_
    refine lv_l2i (v := (lN (td_v (T / 65536) Lt)).toInt32) hx hb dX4_over_25 rfl ?_
    refine td_ti (nI (td_v (T / 65536) Lt)) (lN_i _) ?_
    refine lv_istore (lv' := [(7, .int (nI (td_v (T / 65536) Lt))), (6, .int 0), (5, .int 0), (0, .int (nI T)), (1, .long (lN Lt)), (3, .int (nI C)), (4, .int (nI O))]) hx hb dX4_over_26 hl (by decide) rfl (fun ls hl => ?_)
    refine lv_iload_n hx hb dX4_over_28 rfl (lv_at hl 5 rfl) ?_
    refine lv_sipush (v := 255) hx hb dX4_over_29 (by decide) ?_
    refine lv_icmp_ne (tgt := 40) hx hb dX4_over_32 (by decide) (fun c32 => ?_) (fun c32 => ?_)
    · have hC5 : C ≠ 255 := fun q => c32 (by rw [q]; rfl)
      refine lv_iload hx hb dX4_over_40 (lv_at hl 0 rfl) ?_
      refine lv_iload_n hx hb dX4_over_42 rfl (lv_at hl 5 rfl) ?_
      refine lv_imul hx hb dX4_over_43 ?_
      refine td_ti (nI ((td_v (T / 65536) Lt) * C)) (pk_mul (td_v (T / 65536) Lt) C) ?_
      refine lv_iload hx hb dX4_over_44 (lv_at hl 6 rfl) ?_
      refine lv_iload hx hb dX4_over_46 (lv_at hl 1 rfl) ?_
      refine td_csi (va_runS (As := [.int (nI O), .int 0]) (rest := [.int (nI ((td_v (T / 65536) Lt) * C))]) ⟨hx, hb, hml, hown, hts⟩ (tm_part l dC dI cI cJ cZ O 0 (by omega) (by omega)) (va_cwS 2 hts (td_gS (td_i14 (List.mem_of_getElem? (i := 5) rfl)) (td_i14 (List.mem_of_getElem? (i := 6) rfl)) (td_i1 (List.mem_of_getElem? (i := 6) rfl)) (td_i14 (List.mem_of_getElem? (i := 7) rfl))) rfl rfl rfl (by decide +kernel) ⟨(Nat.le_of_ble_eq_true rfl), (Nat.le_of_ble_eq_true rfl)⟩) (td_pRS hK hZ hP [] rfl) rfl rfl hl.1 rfl (lv_room (Nat.le_of_ble_eq_true rfl)) dX4_over_48 ⟨Nat.zero_le _, Nat.zero_le _⟩) ?_
      refine td_ti (nI (O / 65536)) (rfl) ?_
      refine lv_sipush (v := 255) hx hb dX4_over_51 (by decide) ?_
      refine lv_iload_n hx hb dX4_over_54 rfl (lv_at hl 5 rfl) ?_
      refine lv_isub hx hb dX4_over_55 ?_
      refine td_ti (nI (255 - C)) (pk_sub (a := 255) (by omega)) ?_
      refine lv_imul hx hb dX4_over_56 ?_
      refine td_ti (nI ((O / 65536) * (255 - C))) (pk_mul (O / 65536) (255 - C)) ?_
      refine lv_iadd hx hb dX4_over_57 ?_
      refine td_ti (nI ((td_v (T / 65536) Lt) * C + ((O / 65536) * (255 - C)))) (nI_add ((td_v (T / 65536) Lt) * C) ((O / 65536) * (255 - C))) ?_
      refine lv_sipush (v := 255) hx hb dX4_over_58 (by decide) ?_
      refine lv_idiv hx hb dX4_over_61 (by decide) ?_
      refine td_ti (nI (td_mx (td_v (T / 65536) Lt) (O / 65536) C)) (pk_div (d := 255) (td_nb3 (by omega) (by omega) hC) (by decide) (by decide)) ?_
      refine lv_istore (lv' := [(8, .int (nI (td_mx (td_v (T / 65536) Lt) (O / 65536) C))), (7, .int (nI (td_v (T / 65536) Lt))), (6, .int 0), (5, .int 0), (0, .int (nI T)), (1, .long (lN Lt)), (3, .int (nI C)), (4, .int (nI O))]) hx hb dX4_over_62 hl (by decide) rfl (fun ls hl => ?_)
      refine lv_iload hx hb dX4_over_64 (lv_at hl 3 rfl) ?_
      refine lv_sipush (v := 256) hx hb dX4_over_66 (by decide) ?_
      refine lv_imul hx hb dX4_over_69 ?_
      refine td_ti (nI (0)) (pk_mul 0 256) ?_
      refine lv_iload hx hb dX4_over_70 (lv_at hl 0 rfl) ?_
      refine lv_iadd hx hb dX4_over_72 ?_
      refine td_ti (nI (0 + (td_mx (td_v (T / 65536) Lt) (O / 65536) C))) (nI_add 0 (td_mx (td_v (T / 65536) Lt) (O / 65536) C)) ?_
      refine lv_istore (lv' := [(5, .int (nI (0 + (td_mx (td_v (T / 65536) Lt) (O / 65536) C)))), (8, .int (nI (td_mx (td_v (T / 65536) Lt) (O / 65536) C))), (7, .int (nI (td_v (T / 65536) Lt))), (6, .int 0), (0, .int (nI T)), (1, .long (lN Lt)), (3, .int (nI C)), (4, .int (nI O))]) hx hb dX4_over_73 hl (by decide) rfl (fun ls hl => ?_)
      refine lv_iinc (v := nI 1) (lv' := [(6, .int (nI 1)), (5, .int (nI (0 + (td_mx (td_v (T / 65536) Lt) (O / 65536) C)))), (8, .int (nI (td_mx (td_v (T / 65536) Lt) (O / 65536) C))), (7, .int (nI (td_v (T / 65536) Lt))), (0, .int (nI T)), (1, .long (lN Lt)), (3, .int (nI C)), (4, .int (nI O))]) hx hb dX4_over_75 hl (k := 3) rfl (nI_add 0 1) (by decide) rfl (fun ls hl => ?_)
      refine lv_goto (tgt := 6) hx hb dX4_over_78 (by decide) ?_
      refine lv_iload hx hb dX4_over_6 (lv_at hl 0 rfl) ?_
      refine lv_iconst (v := 3) hx hb dX4_over_8 (by decide) ?_
      refine lv_icmp_ge (tgt := 81) hx hb dX4_over_9 (by decide) (fun c9_2 => ?_) (fun c9_2 => ?_)
      · exact absurd c9_2 (by decide)
      · refine lv_iload_n hx hb dX4_over_12 rfl (lv_at hl 4 rfl) ?_
        refine lv_iload hx hb dX4_over_13 (lv_at hl 0 rfl) ?_
        refine td_csi (va_runS (As := [.int (nI T), .int (nI 1)]) (rest := []) ⟨hx, hb, hml, hown, hts⟩ (tm_part l dC dI cI cJ cZ T 1 (by omega) (by omega)) (va_cwS 2 hts (td_gS (td_i14 (List.mem_of_getElem? (i := 5) rfl)) (td_i14 (List.mem_of_getElem? (i := 6) rfl)) (td_i1 (List.mem_of_getElem? (i := 6) rfl)) (td_i14 (List.mem_of_getElem? (i := 7) rfl))) rfl rfl rfl (by decide +kernel) ⟨(Nat.le_of_ble_eq_true rfl), (Nat.le_of_ble_eq_true rfl)⟩) (td_pRS hK hZ hP [] rfl) rfl rfl hl.1 rfl (lv_room (Nat.le_of_ble_eq_true rfl)) dX4_over_15 ⟨Nat.zero_le _, Nat.zero_le _⟩) ?_
        refine td_ti (nI (T / 256 % 256)) (rfl) ?_
        refine lv_i2l (v := (nI (T / 256 % 256)).toInt64) hx hb dX4_over_18 rfl ?_
        refine td_tl (lN (T / 256 % 256)) (nI_l (by omega)) ?_
        refine lv_lload_n hx hb dX4_over_19 rfl (lv_at hl 5 rfl) ?_
        refine lv_lmul hx hb dX4_over_20 ?_
        refine td_tl (lN ((T / 256 % 256) * Lt)) (lN_mul _ _) ?_
        refine lv_ldc2 (own := RX4) (v := 65536) hx hb hown (hts (.constantLong RX4 58 65536) (td_i14 (List.mem_of_getElem? (i := 8) rfl))) dX4_over_21 ?_
        refine lv_ldiv hx hb dX4_over_24 (by decide) ?_
        refine td_tl (lN (td_v (T / 256 % 256) Lt)) (pk_lDiv (b := 65536) (td_nb (by omega) hL) (by decide) (by decide)) ?_
        refine lv_l2i (v := (lN (td_v (T / 256 % 256) Lt)).toInt32) hx hb dX4_over_25 rfl ?_
        refine td_ti (nI (td_v (T / 256 % 256) Lt)) (lN_i _) ?_
        refine lv_istore (lv' := [(7, .int (nI (td_v (T / 256 % 256) Lt))), (6, .int (nI 1)), (5, .int (nI (0 + (td_mx (td_v (T / 65536) Lt) (O / 65536) C)))), (8, .int (nI (td_mx (td_v (T / 65536) Lt) (O / 65536) C))), (0, .int (nI T)), (1, .long (lN Lt)), (3, .int (nI C)), (4, .int (nI O))]) hx hb dX4_over_26 hl (by decide) rfl (fun ls hl => ?_)
        refine lv_iload_n hx hb dX4_over_28 rfl (lv_at hl 6 rfl) ?_
        refine lv_sipush (v := 255) hx hb dX4_over_29 (by decide) ?_
        refine lv_icmp_ne (tgt := 40) hx hb dX4_over_32 (by decide) (fun d32 => ?_) (fun d32 => ?_)
        · refine lv_iload hx hb dX4_over_40 (lv_at hl 0 rfl) ?_
          refine lv_iload_n hx hb dX4_over_42 rfl (lv_at hl 6 rfl) ?_
          refine lv_imul hx hb dX4_over_43 ?_
          refine td_ti (nI ((td_v (T / 256 % 256) Lt) * C)) (pk_mul (td_v (T / 256 % 256) Lt) C) ?_
          refine lv_iload hx hb dX4_over_44 (lv_at hl 7 rfl) ?_
          refine lv_iload hx hb dX4_over_46 (lv_at hl 1 rfl) ?_
          refine td_csi (va_runS (As := [.int (nI O), .int (nI 1)]) (rest := [.int (nI ((td_v (T / 256 % 256) Lt) * C))]) ⟨hx, hb, hml, hown, hts⟩ (tm_part l dC dI cI cJ cZ O 1 (by omega) (by omega)) (va_cwS 2 hts (td_gS (td_i14 (List.mem_of_getElem? (i := 5) rfl)) (td_i14 (List.mem_of_getElem? (i := 6) rfl)) (td_i1 (List.mem_of_getElem? (i := 6) rfl)) (td_i14 (List.mem_of_getElem? (i := 7) rfl))) rfl rfl rfl (by decide +kernel) ⟨(Nat.le_of_ble_eq_true rfl), (Nat.le_of_ble_eq_true rfl)⟩) (td_pRS hK hZ hP [] rfl) rfl rfl hl.1 rfl (lv_room (Nat.le_of_ble_eq_true rfl)) dX4_over_48 ⟨Nat.zero_le _, Nat.zero_le _⟩) ?_
          refine td_ti (nI (O / 256 % 256)) (rfl) ?_
          refine lv_sipush (v := 255) hx hb dX4_over_51 (by decide) ?_
          refine lv_iload_n hx hb dX4_over_54 rfl (lv_at hl 6 rfl) ?_
          refine lv_isub hx hb dX4_over_55 ?_
          refine td_ti (nI (255 - C)) (pk_sub (a := 255) (by omega)) ?_
          refine lv_imul hx hb dX4_over_56 ?_
          refine td_ti (nI ((O / 256 % 256) * (255 - C))) (pk_mul (O / 256 % 256) (255 - C)) ?_
          refine lv_iadd hx hb dX4_over_57 ?_
          refine td_ti (nI ((td_v (T / 256 % 256) Lt) * C + ((O / 256 % 256) * (255 - C)))) (nI_add ((td_v (T / 256 % 256) Lt) * C) ((O / 256 % 256) * (255 - C))) ?_
          refine lv_sipush (v := 255) hx hb dX4_over_58 (by decide) ?_
          refine lv_idiv hx hb dX4_over_61 (by decide) ?_
          refine td_ti (nI (td_mx (td_v (T / 256 % 256) Lt) (O / 256 % 256) C)) (pk_div (d := 255) (td_nb3 (by omega) (by omega) hC) (by decide) (by decide)) ?_
          refine lv_istore (lv' := [(8, .int (nI (td_mx (td_v (T / 256 % 256) Lt) (O / 256 % 256) C))), (7, .int (nI (td_v (T / 256 % 256) Lt))), (6, .int (nI 1)), (5, .int (nI (0 + (td_mx (td_v (T / 65536) Lt) (O / 65536) C)))), (0, .int (nI T)), (1, .long (lN Lt)), (3, .int (nI C)), (4, .int (nI O))]) hx hb dX4_over_62 hl (by decide) rfl (fun ls hl => ?_)
          refine lv_iload hx hb dX4_over_64 (lv_at hl 3 rfl) ?_
          refine lv_sipush (v := 256) hx hb dX4_over_66 (by decide) ?_
          refine lv_imul hx hb dX4_over_69 ?_
          refine td_ti (nI ((0 + (td_mx (td_v (T / 65536) Lt) (O / 65536) C)) * 256)) (pk_mul (0 + (td_mx (td_v (T / 65536) Lt) (O / 65536) C)) 256) ?_
          refine lv_iload hx hb dX4_over_70 (lv_at hl 0 rfl) ?_
          refine lv_iadd hx hb dX4_over_72 ?_
          refine td_ti (nI ((0 + (td_mx (td_v (T / 65536) Lt) (O / 65536) C)) * 256 + (td_mx (td_v (T / 256 % 256) Lt) (O / 256 % 256) C))) (nI_add ((0 + (td_mx (td_v (T / 65536) Lt) (O / 65536) C)) * 256) (td_mx (td_v (T / 256 % 256) Lt) (O / 256 % 256) C)) ?_
          refine lv_istore (lv' := [(5, .int (nI ((0 + (td_mx (td_v (T / 65536) Lt) (O / 65536) C)) * 256 + (td_mx (td_v (T / 256 % 256) Lt) (O / 256 % 256) C)))), (8, .int (nI (td_mx (td_v (T / 256 % 256) Lt) (O / 256 % 256) C))), (7, .int (nI (td_v (T / 256 % 256) Lt))), (6, .int (nI 1)), (0, .int (nI T)), (1, .long (lN Lt)), (3, .int (nI C)), (4, .int (nI O))]) hx hb dX4_over_73 hl (by decide) rfl (fun ls hl => ?_)
          refine lv_iinc (v := nI 2) (lv' := [(6, .int (nI 2)), (5, .int (nI ((0 + (td_mx (td_v (T / 65536) Lt) (O / 65536) C)) * 256 + (td_mx (td_v (T / 256 % 256) Lt) (O / 256 % 256) C)))), (8, .int (nI (td_mx (td_v (T / 256 % 256) Lt) (O / 256 % 256) C))), (7, .int (nI (td_v (T / 256 % 256) Lt))), (0, .int (nI T)), (1, .long (lN Lt)), (3, .int (nI C)), (4, .int (nI O))]) hx hb dX4_over_75 hl (k := 3) rfl (nI_add 1 1) (by decide) rfl (fun ls hl => ?_)
          refine lv_goto (tgt := 6) hx hb dX4_over_78 (by decide) ?_
          refine lv_iload hx hb dX4_over_6 (lv_at hl 0 rfl) ?_
          refine lv_iconst (v := 3) hx hb dX4_over_8 (by decide) ?_
          refine lv_icmp_ge (tgt := 81) hx hb dX4_over_9 (by decide) (fun c9_3 => ?_) (fun c9_3 => ?_)
          · exact absurd c9_3 (by decide)
          · refine lv_iload_n hx hb dX4_over_12 rfl (lv_at hl 4 rfl) ?_
            refine lv_iload hx hb dX4_over_13 (lv_at hl 0 rfl) ?_
            refine td_csi (va_runS (As := [.int (nI T), .int (nI 2)]) (rest := []) ⟨hx, hb, hml, hown, hts⟩ (tm_part l dC dI cI cJ cZ T 2 (by omega) (by omega)) (va_cwS 2 hts (td_gS (td_i14 (List.mem_of_getElem? (i := 5) rfl)) (td_i14 (List.mem_of_getElem? (i := 6) rfl)) (td_i1 (List.mem_of_getElem? (i := 6) rfl)) (td_i14 (List.mem_of_getElem? (i := 7) rfl))) rfl rfl rfl (by decide +kernel) ⟨(Nat.le_of_ble_eq_true rfl), (Nat.le_of_ble_eq_true rfl)⟩) (td_pRS hK hZ hP [] rfl) rfl rfl hl.1 rfl (lv_room (Nat.le_of_ble_eq_true rfl)) dX4_over_15 ⟨Nat.zero_le _, Nat.zero_le _⟩) ?_
            refine td_ti (nI (T % 256)) (rfl) ?_
            refine lv_i2l (v := (nI (T % 256)).toInt64) hx hb dX4_over_18 rfl ?_
            refine td_tl (lN (T % 256)) (nI_l (by omega)) ?_
            refine lv_lload_n hx hb dX4_over_19 rfl (lv_at hl 5 rfl) ?_
            refine lv_lmul hx hb dX4_over_20 ?_
            refine td_tl (lN ((T % 256) * Lt)) (lN_mul _ _) ?_
            refine lv_ldc2 (own := RX4) (v := 65536) hx hb hown (hts (.constantLong RX4 58 65536) (td_i14 (List.mem_of_getElem? (i := 8) rfl))) dX4_over_21 ?_
            refine lv_ldiv hx hb dX4_over_24 (by decide) ?_
            refine td_tl (lN (td_v (T % 256) Lt)) (pk_lDiv (b := 65536) (td_nb (by omega) hL) (by decide) (by decide)) ?_
            refine lv_l2i (v := (lN (td_v (T % 256) Lt)).toInt32) hx hb dX4_over_25 rfl ?_
            refine td_ti (nI (td_v (T % 256) Lt)) (lN_i _) ?_
            refine lv_istore (lv' := [(7, .int (nI (td_v (T % 256) Lt))), (6, .int (nI 2)), (5, .int (nI ((0 + (td_mx (td_v (T / 65536) Lt) (O / 65536) C)) * 256 + (td_mx (td_v (T / 256 % 256) Lt) (O / 256 % 256) C)))), (8, .int (nI (td_mx (td_v (T / 256 % 256) Lt) (O / 256 % 256) C))), (0, .int (nI T)), (1, .long (lN Lt)), (3, .int (nI C)), (4, .int (nI O))]) hx hb dX4_over_26 hl (by decide) rfl (fun ls hl => ?_)
            refine lv_iload_n hx hb dX4_over_28 rfl (lv_at hl 6 rfl) ?_
            refine lv_sipush (v := 255) hx hb dX4_over_29 (by decide) ?_
            refine lv_icmp_ne (tgt := 40) hx hb dX4_over_32 (by decide) (fun d32 => ?_) (fun d32 => ?_)
            · refine lv_iload hx hb dX4_over_40 (lv_at hl 0 rfl) ?_
              refine lv_iload_n hx hb dX4_over_42 rfl (lv_at hl 6 rfl) ?_
              refine lv_imul hx hb dX4_over_43 ?_
              refine td_ti (nI ((td_v (T % 256) Lt) * C)) (pk_mul (td_v (T % 256) Lt) C) ?_
              refine lv_iload hx hb dX4_over_44 (lv_at hl 7 rfl) ?_
              refine lv_iload hx hb dX4_over_46 (lv_at hl 1 rfl) ?_
              refine td_csi (va_runS (As := [.int (nI O), .int (nI 2)]) (rest := [.int (nI ((td_v (T % 256) Lt) * C))]) ⟨hx, hb, hml, hown, hts⟩ (tm_part l dC dI cI cJ cZ O 2 (by omega) (by omega)) (va_cwS 2 hts (td_gS (td_i14 (List.mem_of_getElem? (i := 5) rfl)) (td_i14 (List.mem_of_getElem? (i := 6) rfl)) (td_i1 (List.mem_of_getElem? (i := 6) rfl)) (td_i14 (List.mem_of_getElem? (i := 7) rfl))) rfl rfl rfl (by decide +kernel) ⟨(Nat.le_of_ble_eq_true rfl), (Nat.le_of_ble_eq_true rfl)⟩) (td_pRS hK hZ hP [] rfl) rfl rfl hl.1 rfl (lv_room (Nat.le_of_ble_eq_true rfl)) dX4_over_48 ⟨Nat.zero_le _, Nat.zero_le _⟩) ?_
              refine td_ti (nI (O % 256)) (rfl) ?_
              refine lv_sipush (v := 255) hx hb dX4_over_51 (by decide) ?_
              refine lv_iload_n hx hb dX4_over_54 rfl (lv_at hl 6 rfl) ?_
              refine lv_isub hx hb dX4_over_55 ?_
              refine td_ti (nI (255 - C)) (pk_sub (a := 255) (by omega)) ?_
              refine lv_imul hx hb dX4_over_56 ?_
              refine td_ti (nI ((O % 256) * (255 - C))) (pk_mul (O % 256) (255 - C)) ?_
              refine lv_iadd hx hb dX4_over_57 ?_
              refine td_ti (nI ((td_v (T % 256) Lt) * C + ((O % 256) * (255 - C)))) (nI_add ((td_v (T % 256) Lt) * C) ((O % 256) * (255 - C))) ?_
              refine lv_sipush (v := 255) hx hb dX4_over_58 (by decide) ?_
              refine lv_idiv hx hb dX4_over_61 (by decide) ?_
              refine td_ti (nI (td_mx (td_v (T % 256) Lt) (O % 256) C)) (pk_div (d := 255) (td_nb3 (by omega) (by omega) hC) (by decide) (by decide)) ?_
              refine lv_istore (lv' := [(8, .int (nI (td_mx (td_v (T % 256) Lt) (O % 256) C))), (7, .int (nI (td_v (T % 256) Lt))), (6, .int (nI 2)), (5, .int (nI ((0 + (td_mx (td_v (T / 65536) Lt) (O / 65536) C)) * 256 + (td_mx (td_v (T / 256 % 256) Lt) (O / 256 % 256) C)))), (0, .int (nI T)), (1, .long (lN Lt)), (3, .int (nI C)), (4, .int (nI O))]) hx hb dX4_over_62 hl (by decide) rfl (fun ls hl => ?_)
              refine lv_iload hx hb dX4_over_64 (lv_at hl 3 rfl) ?_
              refine lv_sipush (v := 256) hx hb dX4_over_66 (by decide) ?_
              refine lv_imul hx hb dX4_over_69 ?_
              refine td_ti (nI (((0 + (td_mx (td_v (T / 65536) Lt) (O / 65536) C)) * 256 + (td_mx (td_v (T / 256 % 256) Lt) (O / 256 % 256) C)) * 256)) (pk_mul ((0 + (td_mx (td_v (T / 65536) Lt) (O / 65536) C)) * 256 + (td_mx (td_v (T / 256 % 256) Lt) (O / 256 % 256) C)) 256) ?_
              refine lv_iload hx hb dX4_over_70 (lv_at hl 0 rfl) ?_
              refine lv_iadd hx hb dX4_over_72 ?_
              refine td_ti (nI (((0 + (td_mx (td_v (T / 65536) Lt) (O / 65536) C)) * 256 + (td_mx (td_v (T / 256 % 256) Lt) (O / 256 % 256) C)) * 256 + (td_mx (td_v (T % 256) Lt) (O % 256) C))) (nI_add (((0 + (td_mx (td_v (T / 65536) Lt) (O / 65536) C)) * 256 + (td_mx (td_v (T / 256 % 256) Lt) (O / 256 % 256) C)) * 256) (td_mx (td_v (T % 256) Lt) (O % 256) C)) ?_
              refine lv_istore (lv' := [(5, .int (nI (((0 + (td_mx (td_v (T / 65536) Lt) (O / 65536) C)) * 256 + (td_mx (td_v (T / 256 % 256) Lt) (O / 256 % 256) C)) * 256 + (td_mx (td_v (T % 256) Lt) (O % 256) C)))), (8, .int (nI (td_mx (td_v (T % 256) Lt) (O % 256) C))), (7, .int (nI (td_v (T % 256) Lt))), (6, .int (nI 2)), (0, .int (nI T)), (1, .long (lN Lt)), (3, .int (nI C)), (4, .int (nI O))]) hx hb dX4_over_73 hl (by decide) rfl (fun ls hl => ?_)
              refine lv_iinc (v := nI 3) (lv' := [(6, .int (nI 3)), (5, .int (nI (((0 + (td_mx (td_v (T / 65536) Lt) (O / 65536) C)) * 256 + (td_mx (td_v (T / 256 % 256) Lt) (O / 256 % 256) C)) * 256 + (td_mx (td_v (T % 256) Lt) (O % 256) C)))), (8, .int (nI (td_mx (td_v (T % 256) Lt) (O % 256) C))), (7, .int (nI (td_v (T % 256) Lt))), (0, .int (nI T)), (1, .long (lN Lt)), (3, .int (nI C)), (4, .int (nI O))]) hx hb dX4_over_75 hl (k := 3) rfl (nI_add 2 1) (by decide) rfl (fun ls hl => ?_)
              refine lv_goto (tgt := 6) hx hb dX4_over_78 (by decide) ?_
              refine lv_iload hx hb dX4_over_6 (lv_at hl 0 rfl) ?_
              refine lv_iconst (v := 3) hx hb dX4_over_8 (by decide) ?_
              refine lv_icmp_ge (tgt := 81) hx hb dX4_over_9 (by decide) (fun c9_4 => ?_) (fun c9_4 => ?_)
              · refine lv_iload hx hb dX4_over_81 (lv_at hl 1 rfl) ?_
                exact td_rri hx hb hr rfl hlocks (by unfold td_ov; rw [if_neg hC5]; exact td_mixof hT hL) dX4_over_83
              · exact absurd c9_4 (by decide)
            · exact absurd d32 c32
        · exact absurd d32 c32
    · have hC5 : C = 255 := (nI_eq (a := C) (b := 255) (by omega) (by decide)).mp c32
      refine lv_iload hx hb dX4_over_35 (lv_at hl 0 rfl) ?_
      refine lv_goto (tgt := 62) hx hb dX4_over_37 (by decide) ?_
      refine lv_istore (lv' := [(8, .int (nI (td_v (T / 65536) Lt))), (7, .int (nI (td_v (T / 65536) Lt))), (6, .int 0), (5, .int 0), (0, .int (nI T)), (1, .long (lN Lt)), (3, .int (nI C)), (4, .int (nI O))]) hx hb dX4_over_62 hl (by decide) rfl (fun ls hl => ?_)
      refine lv_iload hx hb dX4_over_64 (lv_at hl 3 rfl) ?_
      refine lv_sipush (v := 256) hx hb dX4_over_66 (by decide) ?_
      refine lv_imul hx hb dX4_over_69 ?_
      refine td_ti (nI (0)) (pk_mul 0 256) ?_
      refine lv_iload hx hb dX4_over_70 (lv_at hl 0 rfl) ?_
      refine lv_iadd hx hb dX4_over_72 ?_
      refine td_ti (nI (0 + (td_v (T / 65536) Lt))) (nI_add 0 (td_v (T / 65536) Lt)) ?_
      refine lv_istore (lv' := [(5, .int (nI (0 + (td_v (T / 65536) Lt)))), (8, .int (nI (td_v (T / 65536) Lt))), (7, .int (nI (td_v (T / 65536) Lt))), (6, .int 0), (0, .int (nI T)), (1, .long (lN Lt)), (3, .int (nI C)), (4, .int (nI O))]) hx hb dX4_over_73 hl (by decide) rfl (fun ls hl => ?_)
      refine lv_iinc (v := nI 1) (lv' := [(6, .int (nI 1)), (5, .int (nI (0 + (td_v (T / 65536) Lt)))), (8, .int (nI (td_v (T / 65536) Lt))), (7, .int (nI (td_v (T / 65536) Lt))), (0, .int (nI T)), (1, .long (lN Lt)), (3, .int (nI C)), (4, .int (nI O))]) hx hb dX4_over_75 hl (k := 3) rfl (nI_add 0 1) (by decide) rfl (fun ls hl => ?_)
      refine lv_goto (tgt := 6) hx hb dX4_over_78 (by decide) ?_
      refine lv_iload hx hb dX4_over_6 (lv_at hl 0 rfl) ?_
      refine lv_iconst (v := 3) hx hb dX4_over_8 (by decide) ?_
      refine lv_icmp_ge (tgt := 81) hx hb dX4_over_9 (by decide) (fun c9_5 => ?_) (fun c9_5 => ?_)
      · exact absurd c9_5 (by decide)
      · refine lv_iload_n hx hb dX4_over_12 rfl (lv_at hl 4 rfl) ?_
        refine lv_iload hx hb dX4_over_13 (lv_at hl 0 rfl) ?_
        refine td_csi (va_runS (As := [.int (nI T), .int (nI 1)]) (rest := []) ⟨hx, hb, hml, hown, hts⟩ (tm_part l dC dI cI cJ cZ T 1 (by omega) (by omega)) (va_cwS 2 hts (td_gS (td_i14 (List.mem_of_getElem? (i := 5) rfl)) (td_i14 (List.mem_of_getElem? (i := 6) rfl)) (td_i1 (List.mem_of_getElem? (i := 6) rfl)) (td_i14 (List.mem_of_getElem? (i := 7) rfl))) rfl rfl rfl (by decide +kernel) ⟨(Nat.le_of_ble_eq_true rfl), (Nat.le_of_ble_eq_true rfl)⟩) (td_pRS hK hZ hP [] rfl) rfl rfl hl.1 rfl (lv_room (Nat.le_of_ble_eq_true rfl)) dX4_over_15 ⟨Nat.zero_le _, Nat.zero_le _⟩) ?_
        refine td_ti (nI (T / 256 % 256)) (rfl) ?_
        refine lv_i2l (v := (nI (T / 256 % 256)).toInt64) hx hb dX4_over_18 rfl ?_
        refine td_tl (lN (T / 256 % 256)) (nI_l (by omega)) ?_
        refine lv_lload_n hx hb dX4_over_19 rfl (lv_at hl 5 rfl) ?_
        refine lv_lmul hx hb dX4_over_20 ?_
        refine td_tl (lN ((T / 256 % 256) * Lt)) (lN_mul _ _) ?_
        refine lv_ldc2 (own := RX4) (v := 65536) hx hb hown (hts (.constantLong RX4 58 65536) (td_i14 (List.mem_of_getElem? (i := 8) rfl))) dX4_over_21 ?_
        refine lv_ldiv hx hb dX4_over_24 (by decide) ?_
        refine td_tl (lN (td_v (T / 256 % 256) Lt)) (pk_lDiv (b := 65536) (td_nb (by omega) hL) (by decide) (by decide)) ?_
        refine lv_l2i (v := (lN (td_v (T / 256 % 256) Lt)).toInt32) hx hb dX4_over_25 rfl ?_
        refine td_ti (nI (td_v (T / 256 % 256) Lt)) (lN_i _) ?_
        refine lv_istore (lv' := [(7, .int (nI (td_v (T / 256 % 256) Lt))), (6, .int (nI 1)), (5, .int (nI (0 + (td_v (T / 65536) Lt)))), (8, .int (nI (td_v (T / 65536) Lt))), (0, .int (nI T)), (1, .long (lN Lt)), (3, .int (nI C)), (4, .int (nI O))]) hx hb dX4_over_26 hl (by decide) rfl (fun ls hl => ?_)
        refine lv_iload_n hx hb dX4_over_28 rfl (lv_at hl 6 rfl) ?_
        refine lv_sipush (v := 255) hx hb dX4_over_29 (by decide) ?_
        refine lv_icmp_ne (tgt := 40) hx hb dX4_over_32 (by decide) (fun d32 => ?_) (fun d32 => ?_)
        · exact absurd c32 d32
        · refine lv_iload hx hb dX4_over_35 (lv_at hl 0 rfl) ?_
          refine lv_goto (tgt := 62) hx hb dX4_over_37 (by decide) ?_
          refine lv_istore (lv' := [(8, .int (nI (td_v (T / 256 % 256) Lt))), (7, .int (nI (td_v (T / 256 % 256) Lt))), (6, .int (nI 1)), (5, .int (nI (0 + (td_v (T / 65536) Lt)))), (0, .int (nI T)), (1, .long (lN Lt)), (3, .int (nI C)), (4, .int (nI O))]) hx hb dX4_over_62 hl (by decide) rfl (fun ls hl => ?_)
          refine lv_iload hx hb dX4_over_64 (lv_at hl 3 rfl) ?_
          refine lv_sipush (v := 256) hx hb dX4_over_66 (by decide) ?_
          refine lv_imul hx hb dX4_over_69 ?_
          refine td_ti (nI ((0 + (td_v (T / 65536) Lt)) * 256)) (pk_mul (0 + (td_v (T / 65536) Lt)) 256) ?_
          refine lv_iload hx hb dX4_over_70 (lv_at hl 0 rfl) ?_
          refine lv_iadd hx hb dX4_over_72 ?_
          refine td_ti (nI ((0 + (td_v (T / 65536) Lt)) * 256 + (td_v (T / 256 % 256) Lt))) (nI_add ((0 + (td_v (T / 65536) Lt)) * 256) (td_v (T / 256 % 256) Lt)) ?_
          refine lv_istore (lv' := [(5, .int (nI ((0 + (td_v (T / 65536) Lt)) * 256 + (td_v (T / 256 % 256) Lt)))), (8, .int (nI (td_v (T / 256 % 256) Lt))), (7, .int (nI (td_v (T / 256 % 256) Lt))), (6, .int (nI 1)), (0, .int (nI T)), (1, .long (lN Lt)), (3, .int (nI C)), (4, .int (nI O))]) hx hb dX4_over_73 hl (by decide) rfl (fun ls hl => ?_)
          refine lv_iinc (v := nI 2) (lv' := [(6, .int (nI 2)), (5, .int (nI ((0 + (td_v (T / 65536) Lt)) * 256 + (td_v (T / 256 % 256) Lt)))), (8, .int (nI (td_v (T / 256 % 256) Lt))), (7, .int (nI (td_v (T / 256 % 256) Lt))), (0, .int (nI T)), (1, .long (lN Lt)), (3, .int (nI C)), (4, .int (nI O))]) hx hb dX4_over_75 hl (k := 3) rfl (nI_add 1 1) (by decide) rfl (fun ls hl => ?_)
          refine lv_goto (tgt := 6) hx hb dX4_over_78 (by decide) ?_
          refine lv_iload hx hb dX4_over_6 (lv_at hl 0 rfl) ?_
          refine lv_iconst (v := 3) hx hb dX4_over_8 (by decide) ?_
          refine lv_icmp_ge (tgt := 81) hx hb dX4_over_9 (by decide) (fun c9_6 => ?_) (fun c9_6 => ?_)
          · exact absurd c9_6 (by decide)
          · refine lv_iload_n hx hb dX4_over_12 rfl (lv_at hl 4 rfl) ?_
            refine lv_iload hx hb dX4_over_13 (lv_at hl 0 rfl) ?_
            refine td_csi (va_runS (As := [.int (nI T), .int (nI 2)]) (rest := []) ⟨hx, hb, hml, hown, hts⟩ (tm_part l dC dI cI cJ cZ T 2 (by omega) (by omega)) (va_cwS 2 hts (td_gS (td_i14 (List.mem_of_getElem? (i := 5) rfl)) (td_i14 (List.mem_of_getElem? (i := 6) rfl)) (td_i1 (List.mem_of_getElem? (i := 6) rfl)) (td_i14 (List.mem_of_getElem? (i := 7) rfl))) rfl rfl rfl (by decide +kernel) ⟨(Nat.le_of_ble_eq_true rfl), (Nat.le_of_ble_eq_true rfl)⟩) (td_pRS hK hZ hP [] rfl) rfl rfl hl.1 rfl (lv_room (Nat.le_of_ble_eq_true rfl)) dX4_over_15 ⟨Nat.zero_le _, Nat.zero_le _⟩) ?_
            refine td_ti (nI (T % 256)) (rfl) ?_
            refine lv_i2l (v := (nI (T % 256)).toInt64) hx hb dX4_over_18 rfl ?_
            refine td_tl (lN (T % 256)) (nI_l (by omega)) ?_
            refine lv_lload_n hx hb dX4_over_19 rfl (lv_at hl 5 rfl) ?_
            refine lv_lmul hx hb dX4_over_20 ?_
            refine td_tl (lN ((T % 256) * Lt)) (lN_mul _ _) ?_
            refine lv_ldc2 (own := RX4) (v := 65536) hx hb hown (hts (.constantLong RX4 58 65536) (td_i14 (List.mem_of_getElem? (i := 8) rfl))) dX4_over_21 ?_
            refine lv_ldiv hx hb dX4_over_24 (by decide) ?_
            refine td_tl (lN (td_v (T % 256) Lt)) (pk_lDiv (b := 65536) (td_nb (by omega) hL) (by decide) (by decide)) ?_
            refine lv_l2i (v := (lN (td_v (T % 256) Lt)).toInt32) hx hb dX4_over_25 rfl ?_
            refine td_ti (nI (td_v (T % 256) Lt)) (lN_i _) ?_
            refine lv_istore (lv' := [(7, .int (nI (td_v (T % 256) Lt))), (6, .int (nI 2)), (5, .int (nI ((0 + (td_v (T / 65536) Lt)) * 256 + (td_v (T / 256 % 256) Lt)))), (8, .int (nI (td_v (T / 256 % 256) Lt))), (0, .int (nI T)), (1, .long (lN Lt)), (3, .int (nI C)), (4, .int (nI O))]) hx hb dX4_over_26 hl (by decide) rfl (fun ls hl => ?_)
            refine lv_iload_n hx hb dX4_over_28 rfl (lv_at hl 6 rfl) ?_
            refine lv_sipush (v := 255) hx hb dX4_over_29 (by decide) ?_
            refine lv_icmp_ne (tgt := 40) hx hb dX4_over_32 (by decide) (fun d32 => ?_) (fun d32 => ?_)
            · exact absurd c32 d32
            · refine lv_iload hx hb dX4_over_35 (lv_at hl 0 rfl) ?_
              refine lv_goto (tgt := 62) hx hb dX4_over_37 (by decide) ?_
              refine lv_istore (lv' := [(8, .int (nI (td_v (T % 256) Lt))), (7, .int (nI (td_v (T % 256) Lt))), (6, .int (nI 2)), (5, .int (nI ((0 + (td_v (T / 65536) Lt)) * 256 + (td_v (T / 256 % 256) Lt)))), (0, .int (nI T)), (1, .long (lN Lt)), (3, .int (nI C)), (4, .int (nI O))]) hx hb dX4_over_62 hl (by decide) rfl (fun ls hl => ?_)
              refine lv_iload hx hb dX4_over_64 (lv_at hl 3 rfl) ?_
              refine lv_sipush (v := 256) hx hb dX4_over_66 (by decide) ?_
              refine lv_imul hx hb dX4_over_69 ?_
              refine td_ti (nI (((0 + (td_v (T / 65536) Lt)) * 256 + (td_v (T / 256 % 256) Lt)) * 256)) (pk_mul ((0 + (td_v (T / 65536) Lt)) * 256 + (td_v (T / 256 % 256) Lt)) 256) ?_
              refine lv_iload hx hb dX4_over_70 (lv_at hl 0 rfl) ?_
              refine lv_iadd hx hb dX4_over_72 ?_
              refine td_ti (nI (((0 + (td_v (T / 65536) Lt)) * 256 + (td_v (T / 256 % 256) Lt)) * 256 + (td_v (T % 256) Lt))) (nI_add (((0 + (td_v (T / 65536) Lt)) * 256 + (td_v (T / 256 % 256) Lt)) * 256) (td_v (T % 256) Lt)) ?_
              refine lv_istore (lv' := [(5, .int (nI (((0 + (td_v (T / 65536) Lt)) * 256 + (td_v (T / 256 % 256) Lt)) * 256 + (td_v (T % 256) Lt)))), (8, .int (nI (td_v (T % 256) Lt))), (7, .int (nI (td_v (T % 256) Lt))), (6, .int (nI 2)), (0, .int (nI T)), (1, .long (lN Lt)), (3, .int (nI C)), (4, .int (nI O))]) hx hb dX4_over_73 hl (by decide) rfl (fun ls hl => ?_)
              refine lv_iinc (v := nI 3) (lv' := [(6, .int (nI 3)), (5, .int (nI (((0 + (td_v (T / 65536) Lt)) * 256 + (td_v (T / 256 % 256) Lt)) * 256 + (td_v (T % 256) Lt)))), (8, .int (nI (td_v (T % 256) Lt))), (7, .int (nI (td_v (T % 256) Lt))), (0, .int (nI T)), (1, .long (lN Lt)), (3, .int (nI C)), (4, .int (nI O))]) hx hb dX4_over_75 hl (k := 3) rfl (nI_add 2 1) (by decide) rfl (fun ls hl => ?_)
              refine lv_goto (tgt := 6) hx hb dX4_over_78 (by decide) ?_
              refine lv_iload hx hb dX4_over_6 (lv_at hl 0 rfl) ?_
              refine lv_iconst (v := 3) hx hb dX4_over_8 (by decide) ?_
              refine lv_icmp_ge (tgt := 81) hx hb dX4_over_9 (by decide) (fun c9_7 => ?_) (fun c9_7 => ?_)
              · refine lv_iload hx hb dX4_over_81 (lv_at hl 1 rfl) ?_
                exact td_rri hx hb hr rfl hlocks (by unfold td_ov td_lit; rw [if_pos hC5]; congr 1; omega) dX4_over_83
              · exact absurd c9_7 (by decide)
set_option maxHeartbeats 4000000 in
set_option maxRecDepth 100000 in
/-- columns -/
theorem tm_columns (l : Launch) (dC : Nat → ClassId) (dI : Nat → Nat → Nat) (cI cJ cZ : ClassId) (qM : Nat) (mP : Nat) (mC : Nat) (mN : Nat) (mD : Nat) (w : Nat) (h : Nat) (n : Nat) (mb : Int32) (mg : Int32) (tk : Int32) (hw2 : w ≤ 48) : Met l yX4_columns wsX4_columns ({ frames := 0, cells := 0, slots := 0, locals := 0 }) (td_RP (dC, dI) vwCl (td_T cI cJ cZ) td_nl [(qM, .inr (4, [.int 0, .int (nI w), .int (nI h), .int (nI n), .ref mP, .int mb, .int mg, .int tk, .ref mC, .ref mN, .ref mD]))] [.ref qM]) (vp_Si (fun r => r = nI ((w + 7) / 8))) 0 0 (fun _ => False) := by
  refine Met.ofW (cc := cX4_columns) (maxL := 1) (ret := (some .int)) (by decide) rfl ?_
  intro p e s m args below meth c s₁ B hml hv
  obtain ⟨rfl, hP, hK, hZ⟩ := hv
  have hx := B.exec
  have hb := B.bytes
  have hr := B.returns
  have hts := atoms_spec (ws := wsX4_columns) B.pre
  have hown : s.vm.findClass RX4 = some m.cls := findClass_of_methodNamed B.named
  have hlocks := B.notSynchronized
  have hP : va_P (dC, dI) vwCl [(qM, .inr (4, [.int 0, .int (nI w), .int (nI h), .int (nI n), .ref mP, .int mb, .int mg, .int tk, .ref mC, .ref mN, .ref mD]))] s.heap := hP
  have hl := lv_entry ([.ref qM]) (n := 1) (Nat.le_of_ble_eq_true rfl)
  rw [lg_entry_eq]
  generalize (lg_sl ([.ref qM]) ++ List.replicate (1 - (lg_sl ([.ref qM])).length) Slot.unset).toArray = ls at hl ⊢
  have hl : lv_has ls 1 [(0, .ref qM)] := hl
  refine lv_aload_n hx hb dX4_columns_0 rfl (lv_at hl 0 rfl) ?_
  refine va_get (D := (dC, dI)) (ci := 4) (v := .int (nI w)) (C := RX4) (T := TX4) (N := 11) hx hb hts td_fX4 hown hK hP 0 rfl rfl 1 (by decide) (hts (.fieldLink RX4 23 "TileDeskModel" "width" "I") (td_i12 (List.mem_of_getElem? (i := 0) rfl))) (fun _ h9 => h9) rfl dX4_columns_1 ?_
  refine lv_bipush (v := 7) hx hb dX4_columns_4 (by decide) ?_
  refine lv_iadd hx hb dX4_columns_6 ?_
  refine td_ti (nI (w + 7)) (nI_add w 7) ?_
  refine lv_bipush (v := 8) hx hb dX4_columns_7 (by decide) ?_
  refine lv_idiv hx hb dX4_columns_9 (by decide) ?_
  refine td_ti (nI ((w + 7) / 8)) (pk_div (d := 8) (by omega) (by decide) (by decide)) ?_
  exact td_rri hx hb hr rfl hlocks (rfl) dX4_columns_10
set_option maxHeartbeats 4000000 in
set_option maxRecDepth 100000 in
/-- tiles -/
theorem tm_tiles (l : Launch) (dC : Nat → ClassId) (dI : Nat → Nat → Nat) (cI cJ cZ : ClassId) (qM : Nat) (mP : Nat) (mC : Nat) (mN : Nat) (mD : Nat) (w : Nat) (h : Nat) (n : Nat) (mb : Int32) (mg : Int32) (tk : Int32) (hw2 : w ≤ 48) (hh2 : h ≤ 48) : Met l yX4_tiles wsX4_tiles ({ frames := 1, cells := 0, slots := 0, locals := 20 }) (td_RP (dC, dI) vwCl (td_T cI cJ cZ) td_nl [(qM, .inr (4, [.int 0, .int (nI w), .int (nI h), .int (nI n), .ref mP, .int mb, .int mg, .int tk, .ref mC, .ref mN, .ref mD]))] [.ref qM]) (vp_Si (fun r => r = nI ((w + 7) / 8 * ((h + 7) / 8)))) 0 0 (fun _ => False) := by
  refine Met.ofW (cc := cX4_tiles) (maxL := 1) (ret := (some .int)) (by decide) rfl ?_
  intro p e s m args below meth c s₁ B hml hv
  obtain ⟨rfl, hP, hK, hZ⟩ := hv
  have hx := B.exec
  have hb := B.bytes
  have hr := B.returns
  have hts := atoms_spec (ws := wsX4_tiles) B.pre
  have hown : s.vm.findClass RX4 = some m.cls := findClass_of_methodNamed B.named
  have hlocks := B.notSynchronized
  have hP : va_P (dC, dI) vwCl [(qM, .inr (4, [.int 0, .int (nI w), .int (nI h), .int (nI n), .ref mP, .int mb, .int mg, .int tk, .ref mC, .ref mN, .ref mD]))] s.heap := hP
  have hl := lv_entry ([.ref qM]) (n := 1) (Nat.le_of_ble_eq_true rfl)
  rw [lg_entry_eq]
  generalize (lg_sl ([.ref qM]) ++ List.replicate (1 - (lg_sl ([.ref qM])).length) Slot.unset).toArray = ls at hl ⊢
  have hl : lv_has ls 1 [(0, .ref qM)] := hl
  refine lv_aload_n hx hb dX4_tiles_0 rfl (lv_at hl 0 rfl) ?_
  refine td_csi (va_runV (As := []) (rest := []) ⟨hx, hb, hml, hown, hts⟩ (tm_columns l dC dI cI cJ cZ qM mP mC mN mD w h n mb mg tk (by omega)) (cwV 0 hts (td_gV (td_i14 (List.mem_of_getElem? (i := 12) rfl)) (td_i14 (List.mem_of_getElem? (i := 13) rfl)) (td_i15 (List.mem_of_getElem? (i := 21) rfl)) (td_i1 (List.mem_of_getElem? (i := 6) rfl)) (td_i14 (List.mem_of_getElem? (i := 14) rfl))) rfl rfl rfl (by decide +kernel) ⟨(Nat.le_of_ble_eq_true rfl), (Nat.le_of_ble_eq_true rfl)⟩) (td_pRV hK hZ hP [0] rfl (va_recv hK hP (ci := 4) (q0 := 0) rfl rfl)) rfl rfl hl.1 rfl (lv_room (Nat.le_of_ble_eq_true rfl)) dX4_tiles_1 ⟨Nat.zero_le _, Nat.zero_le _⟩) ?_
  refine lv_aload_n hx hb dX4_tiles_4 rfl (lv_at hl 0 rfl) ?_
  refine va_get (D := (dC, dI)) (ci := 4) (v := .int (nI h)) (C := RX4) (T := TX4) (N := 11) hx hb hts td_fX4 hown hK hP 0 rfl rfl 2 (by decide) (hts (.fieldLink RX4 27 "TileDeskModel" "height" "I") (td_i12 (List.mem_of_getElem? (i := 1) rfl))) (fun _ h9 => h9) rfl dX4_tiles_5 ?_
  refine lv_bipush (v := 7) hx hb dX4_tiles_8 (by decide) ?_
  refine lv_iadd hx hb dX4_tiles_10 ?_
  refine td_ti (nI (h + 7)) (nI_add h 7) ?_
  refine lv_bipush (v := 8) hx hb dX4_tiles_11 (by decide) ?_
  refine lv_idiv hx hb dX4_tiles_13 (by decide) ?_
  refine td_ti (nI ((h + 7) / 8)) (pk_div (d := 8) (by omega) (by decide) (by decide)) ?_
  refine lv_imul hx hb dX4_tiles_14 ?_
  refine td_ti (nI (((w + 7) / 8) * ((h + 7) / 8))) (pk_mul ((w + 7) / 8) ((h + 7) / 8)) ?_
  exact td_rri hx hb hr rfl hlocks (rfl) dX4_tiles_15
set_option maxHeartbeats 4000000 in
set_option maxRecDepth 100000 in
/-- clear -/
theorem tm_clear (l : Launch) (dC : Nat → ClassId) (dI : Nat → Nat → Nat) (cI cJ cZ : ClassId) (sz : Nat) (qM : Nat) (mP : Nat) (mC : Nat) (mN : Nat) (mD : Nat) (w : Nat) (h : Nat) (n : Nat) (mb : Int32) (mg : Int32) (tk : Int32) : Met l yX4_clear wsX4_clear ({ frames := 0, cells := 0, slots := 0, locals := 0 }) (td_WP (dC, dI) vwCl (td_T cI cJ cZ) td_nl [(qM, .inr (4, [.int 0, .int (nI w), .int (nI h), .int (nI n), .ref mP, .int mb, .int mg, .int tk, .ref mC, .ref mN, .ref mD]))] sz [.ref qM]) (va_Qv (S := Unit) (fun u => True) (td_B (dC, dI) vwCl (td_T cI cJ cZ) (va_A [(qM, .inr (4, [.int 0, .int (nI w), .int (nI h), .int (nI n), .ref mP, .int mb, .int mg, .int tk, .ref mC, .ref mN, .ref mD]))] sz) (fun (u : Unit) => [(qM, .inr (4, [.int 0, .int (nI w), .int (nI h), .int 0, .ref mP, .int mb, .int mg, .int tk, .ref mC, .ref mN, .ref mD]))])) (va_A [(qM, .inr (4, [.int 0, .int (nI w), .int (nI h), .int (nI n), .ref mP, .int mb, .int mg, .int tk, .ref mC, .ref mN, .ref mD]))] sz)) 0 0 (va_A [(qM, .inr (4, [.int 0, .int (nI w), .int (nI h), .int (nI n), .ref mP, .int mb, .int mg, .int tk, .ref mC, .ref mN, .ref mD]))] sz) := by
  refine Met.ofW (cc := cX4_clear) (maxL := 1) (ret := none) (by decide) rfl ?_
  intro p e s m args below meth c s₁ B hml hv
  obtain ⟨rfl, hsz, hP, hK, hZ, hD0⟩ := hv
  have hx := B.exec
  have hb := B.bytes
  have hr := B.returns
  have hts := atoms_spec (ws := wsX4_clear) B.pre
  have hown : s.vm.findClass RX4 = some m.cls := findClass_of_methodNamed B.named
  have hlocks := B.notSynchronized
  subst hsz
  have hD := hD0.self (sz := s.heap.size)
  generalize hAe : va_A [(qM, .inr (4, [.int 0, .int (nI w), .int (nI h), .int (nI n), .ref mP, .int mb, .int mg, .int tk, .ref mC, .ref mN, .ref mD]))] s.heap.size = A at hD ⊢
  have hA : ∀ q : Nat, s.heap.size ≤ q → A q := fun q h => by rw [← hAe]; exact Or.inr h
  have hS : va_S A s.heap s.heap [] := va_S.rf
  have hP : va_P (dC, dI) vwCl [(qM, .inr (4, [.int 0, .int (nI w), .int (nI h), .int (nI n), .ref mP, .int mb, .int mg, .int tk, .ref mC, .ref mN, .ref mD]))] s.heap := hP
  have hl := lv_entry ([.ref qM]) (n := 1) (Nat.le_of_ble_eq_true rfl)
  rw [lg_entry_eq]
  generalize (lg_sl ([.ref qM]) ++ List.replicate (1 - (lg_sl ([.ref qM])).length) Slot.unset).toArray = ls at hl ⊢
  have hl : lv_has ls 1 [(0, .ref qM)] := hl
  refine lv_aload_n hx hb dX4_clear_0 rfl (lv_at hl 0 rfl) ?_
  refine lv_iconst (v := 0) hx hb dX4_clear_1 (by decide) ?_
  refine va_put (D := (dC, dI)) (ci := 4) (v := .int 0) (ty := .int) (C := RX4) (T := TX4) (N := 11) hx hb hts td_fX4 tyX4 tyX4_ok nmX4 hown hK hP hD hS 0 rfl rfl 0 (by decide) (hts (.fieldLink RX4 30 "TileDeskModel" "thrown" "I") (td_i11 (List.mem_of_getElem? (i := 23) rfl))) (fun _ h9 => h9) rfl (by decide +kernel) rfl rfl (Nat.le_of_ble_eq_true rfl) dX4_clear_2 (fun H locs hP hD hS => ?_)
  have hP : va_P (dC, dI) vwCl [(qM, .inr (4, [.int 0, .int (nI w), .int (nI h), .int (nI n), .ref mP, .int mb, .int mg, .int tk, .ref mC, .ref mN, .ref mD]))] H := hP
  have hD : va_D A [(qM, .inr (4, [.int 0, .int (nI w), .int (nI h), .int (nI n), .ref mP, .int mb, .int mg, .int tk, .ref mC, .ref mN, .ref mD]))] := hD
  refine lv_aload_n hx hb dX4_clear_5 rfl (lv_at hl 0 rfl) ?_
  refine lv_iconst (v := 0) hx hb dX4_clear_6 (by decide) ?_
  refine va_put (D := (dC, dI)) (ci := 4) (v := .int 0) (ty := .int) (C := RX4) (T := TX4) (N := 11) hx hb hts td_fX4 tyX4 tyX4_ok nmX4 hown hK hP hD hS 0 rfl rfl 3 (by decide) (hts (.fieldLink RX4 40 "TileDeskModel" "many" "I") (td_i12 (List.mem_of_getElem? (i := 2) rfl))) (fun _ h9 => h9) rfl (by decide +kernel) rfl rfl (Nat.le_of_ble_eq_true rfl) dX4_clear_7 (fun H locs hP hD hS => ?_)
  have hP : va_P (dC, dI) vwCl [(qM, .inr (4, [.int 0, .int (nI w), .int (nI h), .int 0, .ref mP, .int mb, .int mg, .int tk, .ref mC, .ref mN, .ref mD]))] H := hP
  have hD : va_D A [(qM, .inr (4, [.int 0, .int (nI w), .int (nI h), .int 0, .ref mP, .int mb, .int mg, .int tk, .ref mC, .ref mN, .ref mD]))] := hD
  have hP9 := hP.sub (ws' := [(qM, .inr (4, [.int 0, .int (nI w), .int (nI h), .int 0, .ref mP, .int mb, .int mg, .int tk, .ref mC, .ref mN, .ref mD]))]) [0] rfl
  have hD9 := hD.sub (ws' := [(qM, .inr (4, [.int 0, .int (nI w), .int (nI h), .int 0, .ref mP, .int mb, .int mg, .int tk, .ref mC, .ref mN, .ref mD]))]) [0] (by decide) rfl
  exact td_rwv () hx hb hr hlocks hK (trivial) hP9 hD9 hS dX4_clear_10
set_option maxHeartbeats 4000000 in
set_option maxRecDepth 100000 in
/-- background -/
theorem tm_background (l : Launch) (dC : Nat → ClassId) (dI : Nat → Nat → Nat) (cI cJ cZ : ClassId) (sz : Nat) (qM : Nat) (mP : Nat) (mC : Nat) (mN : Nat) (mD : Nat) (w : Nat) (h : Nat) (n : Nat) (mb : Int32) (mg : Int32) (tk : Int32) (co : Int32) : Met l yX4_background wsX4_background ({ frames := 1, cells := 0, slots := 0, locals := 20 }) (td_WP (dC, dI) vwCl (td_T cI cJ cZ) td_nl [(qM, .inr (4, [.int 0, .int (nI w), .int (nI h), .int (nI n), .ref mP, .int mb, .int mg, .int tk, .ref mC, .ref mN, .ref mD]))] sz [.ref qM, .int co]) (va_Qi (S := Int32) (fun r u => r = td_bz (0 ≤ co ∧ co < 16777216) ∧ ((0 ≤ co ∧ co < 16777216) ∧ u = co ∨ ¬ (0 ≤ co ∧ co < 16777216) ∧ u = mb)) (td_B (dC, dI) vwCl (td_T cI cJ cZ) (va_A [(qM, .inr (4, [.int 0, .int (nI w), .int (nI h), .int (nI n), .ref mP, .int mb, .int mg, .int tk, .ref mC, .ref mN, .ref mD]))] sz) (fun (u : Int32) => [(qM, .inr (4, [.int 0, .int (nI w), .int (nI h), .int (nI n), .ref mP, .int u, .int mg, .int tk, .ref mC, .ref mN, .ref mD]))])) (va_A [(qM, .inr (4, [.int 0, .int (nI w), .int (nI h), .int (nI n), .ref mP, .int mb, .int mg, .int tk, .ref mC, .ref mN, .ref mD]))] sz)) 0 0 (va_A [(qM, .inr (4, [.int 0, .int (nI w), .int (nI h), .int (nI n), .ref mP, .int mb, .int mg, .int tk, .ref mC, .ref mN, .ref mD]))] sz) := by
  refine Met.ofW (cc := cX4_background) (maxL := 2) (ret := (some .boolean)) (by decide) rfl ?_
  intro p e s m args below meth c s₁ B hml hv
  obtain ⟨rfl, hsz, hP, hK, hZ, hD0⟩ := hv
  have hx := B.exec
  have hb := B.bytes
  have hr := B.returns
  have hts := atoms_spec (ws := wsX4_background) B.pre
  have hown : s.vm.findClass RX4 = some m.cls := findClass_of_methodNamed B.named
  have hlocks := B.notSynchronized
  subst hsz
  have hD := hD0.self (sz := s.heap.size)
  generalize hAe : va_A [(qM, .inr (4, [.int 0, .int (nI w), .int (nI h), .int (nI n), .ref mP, .int mb, .int mg, .int tk, .ref mC, .ref mN, .ref mD]))] s.heap.size = A at hD ⊢
  have hA : ∀ q : Nat, s.heap.size ≤ q → A q := fun q h => by rw [← hAe]; exact Or.inr h
  have hS : va_S A s.heap s.heap [] := va_S.rf
  have hP : va_P (dC, dI) vwCl [(qM, .inr (4, [.int 0, .int (nI w), .int (nI h), .int (nI n), .ref mP, .int mb, .int mg, .int tk, .ref mC, .ref mN, .ref mD]))] s.heap := hP
  have hl := lv_entry ([.ref qM, .int co]) (n := 2) (Nat.le_of_ble_eq_true rfl)
  rw [lg_entry_eq]
  generalize (lg_sl ([.ref qM, .int co]) ++ List.replicate (2 - (lg_sl ([.ref qM, .int co])).length) Slot.unset).toArray = ls at hl ⊢
  have hl : lv_has ls 2 [(0, .ref qM), (1, .int co)] := hl
  refine lv_aload_n hx hb dX4_background_0 rfl (lv_at hl 0 rfl) ?_
  refine lv_iconst (v := 0) hx hb dX4_background_1 (by decide) ?_
  refine va_put (D := (dC, dI)) (ci := 4) (v := .int 0) (ty := .int) (C := RX4) (T := TX4) (N := 11) hx hb hts td_fX4 tyX4 tyX4_ok nmX4 hown hK hP hD hS 0 rfl rfl 0 (by decide) (hts (.fieldLink RX4 30 "TileDeskModel" "thrown" "I") (td_i11 (List.mem_of_getElem? (i := 23) rfl))) (fun _ h9 => h9) rfl (by decide +kernel) rfl rfl (Nat.le_of_ble_eq_true rfl) dX4_background_2 (fun H locs hP hD hS => ?_)
  have hP : va_P (dC, dI) vwCl [(qM, .inr (4, [.int 0, .int (nI w), .int (nI h), .int (nI n), .ref mP, .int mb, .int mg, .int tk, .ref mC, .ref mN, .ref mD]))] H := hP
  have hD : va_D A [(qM, .inr (4, [.int 0, .int (nI w), .int (nI h), .int (nI n), .ref mP, .int mb, .int mg, .int tk, .ref mC, .ref mN, .ref mD]))] := hD
  refine lv_aload_n hx hb dX4_background_5 rfl (lv_at hl 0 rfl) ?_
  refine lv_iload_n hx hb dX4_background_6 rfl (lv_at hl 1 rfl) ?_
  refine td_csi (va_runS (As := [.int co]) (rest := [.ref qM]) ⟨hx, hb, hml, hown, hts⟩ (tm_isColour l dC dI cI cJ cZ co) (va_cwS 1 hts (td_gS (td_i13 (List.mem_of_getElem? (i := 2) rfl)) (td_i13 (List.mem_of_getElem? (i := 3) rfl)) (td_i1 (List.mem_of_getElem? (i := 6) rfl)) (td_i13 (List.mem_of_getElem? (i := 4) rfl))) rfl rfl rfl (by decide +kernel) ⟨(Nat.le_of_ble_eq_true rfl), (Nat.le_of_ble_eq_true rfl)⟩) (td_pRS hK hZ hP [] rfl) rfl rfl hl.1 rfl (lv_room (Nat.le_of_ble_eq_true rfl)) dX4_background_7 ⟨Nat.zero_le _, Nat.zero_le _⟩) ?_
  refine td_ifeq (tgt := 17) hx hb dX4_background_10 (by decide) (fun c10 => ?_) (fun c10 => ?_)
  · refine lv_aload_n hx hb dX4_background_17 rfl (lv_at hl 0 rfl) ?_
    refine va_get (D := (dC, dI)) (ci := 4) (v := .int mb) (C := RX4) (T := TX4) (N := 11) hx hb hts td_fX4 hown hK hP 0 rfl rfl 5 (by decide) (hts (.fieldLink RX4 51 "TileDeskModel" "background" "I") (td_i12 (List.mem_of_getElem? (i := 4) rfl))) (fun _ h9 => h9) rfl dX4_background_18 ?_
    refine va_put (D := (dC, dI)) (ci := 4) (v := .int mb) (ty := .int) (C := RX4) (T := TX4) (N := 11) hx hb hts td_fX4 tyX4 tyX4_ok nmX4 hown hK hP hD hS 0 rfl rfl 5 (by decide) (hts (.fieldLink RX4 51 "TileDeskModel" "background" "I") (td_i12 (List.mem_of_getElem? (i := 4) rfl))) (fun _ h9 => h9) rfl (by decide +kernel) rfl rfl (Nat.le_of_ble_eq_true rfl) dX4_background_21 (fun H locs hP hD hS => ?_)
    have hP : va_P (dC, dI) vwCl [(qM, .inr (4, [.int 0, .int (nI w), .int (nI h), .int (nI n), .ref mP, .int mb, .int mg, .int tk, .ref mC, .ref mN, .ref mD]))] H := hP
    have hD : va_D A [(qM, .inr (4, [.int 0, .int (nI w), .int (nI h), .int (nI n), .ref mP, .int mb, .int mg, .int tk, .ref mC, .ref mN, .ref mD]))] := hD
    refine lv_iload_n hx hb dX4_background_24 rfl (lv_at hl 1 rfl) ?_
    refine td_csi (va_runS (As := [.int co]) (rest := []) ⟨hx, hb, hml, hown, hts⟩ (tm_isColour l dC dI cI cJ cZ co) (va_cwS 1 hts (td_gS (td_i13 (List.mem_of_getElem? (i := 2) rfl)) (td_i13 (List.mem_of_getElem? (i := 3) rfl)) (td_i1 (List.mem_of_getElem? (i := 6) rfl)) (td_i13 (List.mem_of_getElem? (i := 4) rfl))) rfl rfl rfl (by decide +kernel) ⟨(Nat.le_of_ble_eq_true rfl), (Nat.le_of_ble_eq_true rfl)⟩) (td_pRS hK hZ hP [] rfl) rfl rfl hl.1 rfl (lv_room (Nat.le_of_ble_eq_true rfl)) dX4_background_25 ⟨Nat.zero_le _, Nat.zero_le _⟩) ?_
    have hP9 := hP.sub (ws' := [(qM, .inr (4, [.int 0, .int (nI w), .int (nI h), .int (nI n), .ref mP, .int mb, .int mg, .int tk, .ref mC, .ref mN, .ref mD]))]) [0] rfl
    have hD9 := hD.sub (ws' := [(qM, .inr (4, [.int 0, .int (nI w), .int (nI h), .int (nI n), .ref mP, .int mb, .int mg, .int tk, .ref mC, .ref mN, .ref mD]))]) [0] (by decide) rfl
    exact td_rwi mb hx hb hr td_bz_nar hlocks hK (⟨rfl, Or.inr ⟨c10, rfl⟩⟩) hP9 hD9 hS dX4_background_28
  · refine lv_iload_n hx hb dX4_background_13 rfl (lv_at hl 1 rfl) ?_
    refine lv_goto (tgt := 21) hx hb dX4_background_14 (by decide) ?_
    refine va_put (D := (dC, dI)) (ci := 4) (v := .int co) (ty := .int) (C := RX4) (T := TX4) (N := 11) hx hb hts td_fX4 tyX4 tyX4_ok nmX4 hown hK hP hD hS 0 rfl rfl 5 (by decide) (hts (.fieldLink RX4 51 "TileDeskModel" "background" "I") (td_i12 (List.mem_of_getElem? (i := 4) rfl))) (fun _ h9 => h9) rfl (by decide +kernel) rfl rfl (Nat.le_of_ble_eq_true rfl) dX4_background_21 (fun H locs hP hD hS => ?_)
    have hP : va_P (dC, dI) vwCl [(qM, .inr (4, [.int 0, .int (nI w), .int (nI h), .int (nI n), .ref mP, .int co, .int mg, .int tk, .ref mC, .ref mN, .ref mD]))] H := hP
    have hD : va_D A [(qM, .inr (4, [.int 0, .int (nI w), .int (nI h), .int (nI n), .ref mP, .int co, .int mg, .int tk, .ref mC, .ref mN, .ref mD]))] := hD
    refine lv_iload_n hx hb dX4_background_24 rfl (lv_at hl 1 rfl) ?_
    refine td_csi (va_runS (As := [.int co]) (rest := []) ⟨hx, hb, hml, hown, hts⟩ (tm_isColour l dC dI cI cJ cZ co) (va_cwS 1 hts (td_gS (td_i13 (List.mem_of_getElem? (i := 2) rfl)) (td_i13 (List.mem_of_getElem? (i := 3) rfl)) (td_i1 (List.mem_of_getElem? (i := 6) rfl)) (td_i13 (List.mem_of_getElem? (i := 4) rfl))) rfl rfl rfl (by decide +kernel) ⟨(Nat.le_of_ble_eq_true rfl), (Nat.le_of_ble_eq_true rfl)⟩) (td_pRS hK hZ hP [] rfl) rfl rfl hl.1 rfl (lv_room (Nat.le_of_ble_eq_true rfl)) dX4_background_25 ⟨Nat.zero_le _, Nat.zero_le _⟩) ?_
    have hP9 := hP.sub (ws' := [(qM, .inr (4, [.int 0, .int (nI w), .int (nI h), .int (nI n), .ref mP, .int co, .int mg, .int tk, .ref mC, .ref mN, .ref mD]))]) [0] rfl
    have hD9 := hD.sub (ws' := [(qM, .inr (4, [.int 0, .int (nI w), .int (nI h), .int (nI n), .ref mP, .int co, .int mg, .int tk, .ref mC, .ref mN, .ref mD]))]) [0] (by decide) rfl
    exact td_rwi co hx hb hr td_bz_nar hlocks hK (⟨rfl, Or.inl ⟨c10, rfl⟩⟩) hP9 hD9 hS dX4_background_28
