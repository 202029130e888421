set_option maxHeartbeats 4000000 in
set_option maxRecDepth 100000 in
/-- draw -/
theorem tm_draw (l : Launch) (dC : Nat → ClassId) (dI : Nat → Nat → Nat) (cI cJ cZ : ClassId) (sz : Nat) (qM : Nat) (mP : Nat) (mC : Nat) (mN : Nat) (mD : Nat) (w : Nat) (h : Nat) (n : Nat) (mb : Int32) (mg : Int32) (tk : Int32) (g : Nat → Int32) (fc : Nat → Int32) (fn : Nat → Int32) (a : Nat) (i : Nat) (j : Nat) (t : Nat) (c0 : Nat) (n0 : Nat) (ha : a + 13 < 7180) (hp : td_pc g a) (hi : i < 48) (hj : j < 48) (ht : t < 2304) (hc0 : fc t = nI c0) (hc1 : c0 < 16777216) (hn0 : fn t = nI n0) (hn1 : n0 ≤ 1048576) : Met l yX4_draw wsX4_draw ({ frames := 2, cells := 0, slots := 0, locals := 55 }) (td_WP (dC, dI) vwCl (td_T cI cJ cZ) td_nl [(qM, .inr (4, [.int 0, .int (nI w), .int (nI h), .int (nI n), .ref mP, .int mb, .int mg, .int tk, .ref mC, .ref mN, .ref mD])), (mP, .inl (cI, 7180, .inl g)), (mC, .inl (cI, 2304, .inl fc)), (mN, .inl (cI, 2304, .inl fn))] sz [.ref qM, .int (nI a), .int (nI i), .int (nI j), .int (nI t)]) (va_Qv (S := (Nat → Int32) × (Nat → Int32)) (fun u => (∀ z, z ≠ t → u.1 z = fc z ∧ u.2 z = fn z) ∧ u.1 t = nI (td_stp g a i j (c0, n0)).1 ∧ u.2 t = nI (td_stp g a i j (c0, n0)).2) (td_B (dC, dI) vwCl (td_T cI cJ cZ) (va_A [(qM, .inr (4, [.int 0, .int (nI w), .int (nI h), .int (nI n), .ref mP, .int mb, .int mg, .int tk, .ref mC, .ref mN, .ref mD])), (mP, .inl (cI, 7180, .inl g)), (mC, .inl (cI, 2304, .inl fc)), (mN, .inl (cI, 2304, .inl fn))] sz) (fun (u : (Nat → Int32) × (Nat → Int32)) => [(qM, .inr (4, [.int 0, .int (nI w), .int (nI h), .int (nI n), .ref mP, .int mb, .int mg, .int tk, .ref mC, .ref mN, .ref mD])), (mP, .inl (cI, 7180, .inl g)), (mC, .inl (cI, 2304, .inl u.1)), (mN, .inl (cI, 2304, .inl u.2))])) (va_A [(qM, .inr (4, [.int 0, .int (nI w), .int (nI h), .int (nI n), .ref mP, .int mb, .int mg, .int tk, .ref mC, .ref mN, .ref mD])), (mP, .inl (cI, 7180, .inl g)), (mC, .inl (cI, 2304, .inl fc)), (mN, .inl (cI, 2304, .inl fn))] sz)) 0 0 (va_A [(qM, .inr (4, [.int 0, .int (nI w), .int (nI h), .int (nI n), .ref mP, .int mb, .int mg, .int tk, .ref mC, .ref mN, .ref mD])), (mP, .inl (cI, 7180, .inl g)), (mC, .inl (cI, 2304, .inl fc)), (mN, .inl (cI, 2304, .inl fn))] sz) := by
  refine Met.ofW (cc := cX4_draw) (maxL := 21) (ret := none) (by decide) rfl ?_
  intro p e s m args below meth c s₁ B hml hv
  obtain ⟨rfl, hsz, hP, hK, hZ, hD0⟩ := hv
  have hx := B.exec
  have hb := B.bytes
  have hr := B.returns
  have hts := atoms_spec (ws := wsX4_draw) B.pre
  have hown : s.vm.findClass RX4 = some m.cls := findClass_of_methodNamed B.named
  have hlocks := B.notSynchronized
  subst hsz
  have hD := hD0.self (sz := s.heap.size)
  generalize hAe : va_A [(qM, .inr (4, [.int 0, .int (nI w), .int (nI h), .int (nI n), .ref mP, .int mb, .int mg, .int tk, .ref mC, .ref mN, .ref mD])), (mP, .inl (cI, 7180, .inl g)), (mC, .inl (cI, 2304, .inl fc)), (mN, .inl (cI, 2304, .inl fn))] s.heap.size = A at hD ⊢
  have hA : ∀ q : Nat, s.heap.size ≤ q → A q := fun q h => by rw [← hAe]; exact Or.inr h
  have hS : va_S A s.heap s.heap [] := va_S.rf
  have hP : va_P (dC, dI) vwCl [(qM, .inr (4, [.int 0, .int (nI w), .int (nI h), .int (nI n), .ref mP, .int mb, .int mg, .int tk, .ref mC, .ref mN, .ref mD])), (mP, .inl (cI, 7180, .inl g)), (mC, .inl (cI, 2304, .inl fc)), (mN, .inl (cI, 2304, .inl fn))] s.heap := hP
  have hl := lv_entry ([.ref qM, .int (nI a), .int (nI i), .int (nI j), .int (nI t)]) (n := 21) (Nat.le_of_ble_eq_true rfl)
  rw [lg_entry_eq]
  generalize (lg_sl ([.ref qM, .int (nI a), .int (nI i), .int (nI j), .int (nI t)]) ++ List.replicate (21 - (lg_sl ([.ref qM, .int (nI a), .int (nI i), .int (nI j), .int (nI t)])).length) Slot.unset).toArray = ls at hl ⊢
  have hl : lv_has ls 21 [(0, .ref qM), (1, .int (nI a)), (2, .int (nI i)), (3, .int (nI j)), (4, .int (nI t))] := hl
  obtain ⟨-, -, -, -, t1, t2, t3, t4⟩ := id hp
  refine lv_ldc2 (own := RX4) (v := 16) hx hb hown (hts (.constantLong RX4 60 16) (td_i13 (List.mem_of_getElem? (i := 21) rfl))) dX4_draw_0 ?_
  refine lv_iload_n hx hb dX4_draw_3 rfl (lv_at hl 2 rfl) ?_
  refine lv_i2l (v := (nI i).toInt64) hx hb dX4_draw_4 rfl ?_
  refine td_tl (lN i) (nI_l (by omega)) ?_
  refine lv_lmul hx hb dX4_draw_5 ?_
  refine td_tl (lN (16 * i)) (lN_mul 16 i) ?_
  refine lv_ldc2 (own := RX4) (v := 8) hx hb hown (hts (.constantLong RX4 62 8) (td_i13 (List.mem_of_getElem? (i := 22) rfl))) dX4_draw_6 ?_
  refine lv_ladd hx hb dX4_draw_9 ?_
  refine td_tl (lN (16 * i + 8)) (lN_add (16 * i) 8) ?_
  refine lv_lstore (lv' := [(5, .long (lN (16 * i + 8))), (0, .ref qM), (1, .int (nI a)), (2, .int (nI i)), (3, .int (nI j)), (4, .int (nI t))]) hx hb dX4_draw_10 hl (by decide) rfl (fun ls hl => ?_)
  refine lv_ldc2 (own := RX4) (v := 16) hx hb hown (hts (.constantLong RX4 60 16) (td_i13 (List.mem_of_getElem? (i := 21) rfl))) dX4_draw_12 ?_
  refine lv_iload_n hx hb dX4_draw_15 rfl (lv_at hl 4 rfl) ?_
  refine lv_i2l (v := (nI j).toInt64) hx hb dX4_draw_16 rfl ?_
  refine td_tl (lN j) (nI_l (by omega)) ?_
  refine lv_lmul hx hb dX4_draw_17 ?_
  refine td_tl (lN (16 * j)) (lN_mul 16 j) ?_
  refine lv_ldc2 (own := RX4) (v := 8) hx hb hown (hts (.constantLong RX4 62 8) (td_i13 (List.mem_of_getElem? (i := 22) rfl))) dX4_draw_18 ?_
  refine lv_ladd hx hb dX4_draw_21 ?_
  refine td_tl (lN (16 * j + 8)) (lN_add (16 * j) 8) ?_
  refine lv_lstore (lv' := [(7, .long (lN (16 * j + 8))), (5, .long (lN (16 * i + 8))), (0, .ref qM), (1, .int (nI a)), (2, .int (nI i)), (3, .int (nI j)), (4, .int (nI t))]) hx hb dX4_draw_22 hl (by decide) rfl (fun ls hl => ?_)
  refine lv_aload_n hx hb dX4_draw_24 rfl (lv_at hl 2 rfl) ?_
  refine lv_iload_n hx hb dX4_draw_25 rfl (lv_at hl 3 rfl) ?_
  refine lv_iconst (v := 4) hx hb dX4_draw_26 (by decide) ?_
  refine lv_iadd hx hb dX4_draw_27 ?_
  refine td_ti (nI (a + 4)) (nI_add a 4) ?_
  refine lv_iload_n hx hb dX4_draw_28 rfl (lv_at hl 3 rfl) ?_
  refine lv_bipush (v := 8) hx hb dX4_draw_29 (by decide) ?_
  refine lv_iadd hx hb dX4_draw_31 ?_
  refine td_ti (nI (a + 8)) (nI_add a 8) ?_
  refine lv_lload hx hb dX4_draw_32 (lv_at hl 1 rfl) ?_
  refine lv_lload hx hb dX4_draw_34 (lv_at hl 0 rfl) ?_
  refine td_csi (va_runV (As := [.int (nI (a + 4)), .int (nI (a + 8)), .long (lN (16 * i + 8)), .long (lN (16 * j + 8))]) (rest := []) ⟨hx, hb, hml, hown, hts⟩ (tm_holds l dC dI cI cJ cZ qM mP mC mN mD w h n mb mg tk g (a + 4) (a + 8) (lN (16 * i + 8)) (lN (16 * j + 8)) (by omega) (by omega)) (cwV 4 hts (td_gV (td_i13 (List.mem_of_getElem? (i := 23) rfl)) (td_i14 (List.mem_of_getElem? (i := 0) rfl)) (td_i15 (List.mem_of_getElem? (i := 19) rfl)) (td_i1 (List.mem_of_getElem? (i := 6) rfl)) (td_i14 (List.mem_of_getElem? (i := 1) rfl))) rfl rfl rfl (by decide +kernel) ⟨(Nat.le_of_ble_eq_true rfl), (Nat.le_of_ble_eq_true rfl)⟩) (td_pRV hK hZ hP [0, 1] rfl (va_recv hK hP (ci := 4) (q0 := 0) rfl rfl)) rfl rfl hl.1 rfl (lv_room (Nat.le_of_ble_eq_true rfl)) dX4_draw_36 ⟨Nat.zero_le _, Nat.zero_le _⟩) ?_
  refine td_ifeq (tgt := 73) hx hb dX4_draw_39 (by decide) (fun c39 => ?_) (fun c39 => ?_)
  · have hP9 := hP.sub (ws' := [(qM, .inr (4, [.int 0, .int (nI w), .int (nI h), .int (nI n), .ref mP, .int mb, .int mg, .int tk, .ref mC, .ref mN, .ref mD])), (mP, .inl (cI, 7180, .inl g)), (mC, .inl (cI, 2304, .inl fc)), (mN, .inl (cI, 2304, .inl fn))]) [0, 1, 2, 3] rfl
    have hD9 := hD.sub (ws' := [(qM, .inr (4, [.int 0, .int (nI w), .int (nI h), .int (nI n), .ref mP, .int mb, .int mg, .int tk, .ref mC, .ref mN, .ref mD])), (mP, .inl (cI, 7180, .inl g)), (mC, .inl (cI, 2304, .inl fc)), (mN, .inl (cI, 2304, .inl fn))]) [0, 1, 2, 3] (by decide) rfl
    exact td_rwv (fc, fn) hx hb hr hlocks hK (⟨fun z _ => ⟨rfl, rfl⟩, by rw [td_stp0 (fun z => c39 ((td_m32 hp.2.1 hp.2.2.1 hi hj).mpr z.1))]; exact hc0, by rw [td_stp0 (fun z => c39 ((td_m32 hp.2.1 hp.2.2.1 hi hj).mpr z.1))]; exact hn0⟩) hP9 hD9 hS dX4_draw_73
  · refine lv_aload_n hx hb dX4_draw_42 rfl (lv_at hl 2 rfl) ?_
    refine lv_iload_n hx hb dX4_draw_43 rfl (lv_at hl 3 rfl) ?_
    refine lv_bipush (v := 8) hx hb dX4_draw_44 (by decide) ?_
    refine lv_iadd hx hb dX4_draw_46 ?_
    refine td_ti (nI (a + 8)) (nI_add a 8) ?_
    refine lv_iload_n hx hb dX4_draw_47 rfl (lv_at hl 3 rfl) ?_
    refine lv_lload hx hb dX4_draw_48 (lv_at hl 1 rfl) ?_
    refine lv_lload hx hb dX4_draw_50 (lv_at hl 0 rfl) ?_
    refine td_csi (va_runV (As := [.int (nI (a + 8)), .int (nI a), .long (lN (16 * i + 8)), .long (lN (16 * j + 8))]) (rest := []) ⟨hx, hb, hml, hown, hts⟩ (tm_holds l dC dI cI cJ cZ qM mP mC mN mD w h n mb mg tk g (a + 8) a (lN (16 * i + 8)) (lN (16 * j + 8)) (by omega) (by omega)) (cwV 4 hts (td_gV (td_i13 (List.mem_of_getElem? (i := 23) rfl)) (td_i14 (List.mem_of_getElem? (i := 0) rfl)) (td_i15 (List.mem_of_getElem? (i := 19) rfl)) (td_i1 (List.mem_of_getElem? (i := 6) rfl)) (td_i14 (List.mem_of_getElem? (i := 1) rfl))) rfl rfl rfl (by decide +kernel) ⟨(Nat.le_of_ble_eq_true rfl), (Nat.le_of_ble_eq_true rfl)⟩) (td_pRV hK hZ hP [0, 1] rfl (va_recv hK hP (ci := 4) (q0 := 0) rfl rfl)) rfl rfl hl.1 rfl (lv_room (Nat.le_of_ble_eq_true rfl)) dX4_draw_52 ⟨Nat.zero_le _, Nat.zero_le _⟩) ?_
    refine td_ifeq (tgt := 73) hx hb dX4_draw_55 (by decide) (fun c55 => ?_) (fun c55 => ?_)
    · have hP9 := hP.sub (ws' := [(qM, .inr (4, [.int 0, .int (nI w), .int (nI h), .int (nI n), .ref mP, .int mb, .int mg, .int tk, .ref mC, .ref mN, .ref mD])), (mP, .inl (cI, 7180, .inl g)), (mC, .inl (cI, 2304, .inl fc)), (mN, .inl (cI, 2304, .inl fn))]) [0, 1, 2, 3] rfl
      have hD9 := hD.sub (ws' := [(qM, .inr (4, [.int 0, .int (nI w), .int (nI h), .int (nI n), .ref mP, .int mb, .int mg, .int tk, .ref mC, .ref mN, .ref mD])), (mP, .inl (cI, 7180, .inl g)), (mC, .inl (cI, 2304, .inl fc)), (mN, .inl (cI, 2304, .inl fn))]) [0, 1, 2, 3] (by decide) rfl
      exact td_rwv (fc, fn) hx hb hr hlocks hK (⟨fun z _ => ⟨rfl, rfl⟩, by rw [td_stp0 (fun z => c55 ((td_m32 hp.2.2.1 hp.1 hi hj).mpr z.2.1))]; exact hc0, by rw [td_stp0 (fun z => c55 ((td_m32 hp.2.2.1 hp.1 hi hj).mpr z.2.1))]; exact hn0⟩) hP9 hD9 hS dX4_draw_73
    · refine lv_aload_n hx hb dX4_draw_58 rfl (lv_at hl 2 rfl) ?_
      refine lv_iload_n hx hb dX4_draw_59 rfl (lv_at hl 3 rfl) ?_
      refine lv_iload_n hx hb dX4_draw_60 rfl (lv_at hl 3 rfl) ?_
      refine lv_iconst (v := 4) hx hb dX4_draw_61 (by decide) ?_
      refine lv_iadd hx hb dX4_draw_62 ?_
      refine td_ti (nI (a + 4)) (nI_add a 4) ?_
      refine lv_lload hx hb dX4_draw_63 (lv_at hl 1 rfl) ?_
      refine lv_lload hx hb dX4_draw_65 (lv_at hl 0 rfl) ?_
      refine td_csi (va_runV (As := [.int (nI a), .int (nI (a + 4)), .long (lN (16 * i + 8)), .long (lN (16 * j + 8))]) (rest := []) ⟨hx, hb, hml, hown, hts⟩ (tm_holds l dC dI cI cJ cZ qM mP mC mN mD w h n mb mg tk g a (a + 4) (lN (16 * i + 8)) (lN (16 * j + 8)) (by omega) (by omega)) (cwV 4 hts (td_gV (td_i13 (List.mem_of_getElem? (i := 23) rfl)) (td_i14 (List.mem_of_getElem? (i := 0) rfl)) (td_i15 (List.mem_of_getElem? (i := 19) rfl)) (td_i1 (List.mem_of_getElem? (i := 6) rfl)) (td_i14 (List.mem_of_getElem? (i := 1) rfl))) rfl rfl rfl (by decide +kernel) ⟨(Nat.le_of_ble_eq_true rfl), (Nat.le_of_ble_eq_true rfl)⟩) (td_pRV hK hZ hP [0, 1] rfl (va_recv hK hP (ci := 4) (q0 := 0) rfl rfl)) rfl rfl hl.1 rfl (lv_room (Nat.le_of_ble_eq_true rfl)) dX4_draw_67 ⟨Nat.zero_le _, Nat.zero_le _⟩) ?_
      refine td_ifne (tgt := 74) hx hb dX4_draw_70 (by decide) (fun c70 => ?_) (fun c70 => ?_)
      · have hcov : td_cov g a (td_x i) (td_x j) := ⟨(td_m32 hp.2.1 hp.2.2.1 hi hj).mp c39, (td_m32 hp.2.2.1 hp.1 hi hj).mp c55, (td_m32 hp.1 hp.2.1 hi hj).mp c70⟩
        obtain ⟨m1, m2, m3, m4, m5, m6, m7⟩ := td_mach (h := td_eL g (a + 4) (a + 8) (lN (16 * i + 8)) (lN (16 * j + 8)) * (g (a + 2)).toInt64 + td_eL g (a + 8) (a) (lN (16 * i + 8)) (lN (16 * j + 8)) * (g (a + 6)).toInt64 + td_eL g (a) (a + 4) (lN (16 * i + 8)) (lN (16 * j + 8)) * (g (a + 10)).toInt64) (ls := td_eL g (a + 4) (a + 8) (lN (16 * i + 8)) (lN (16 * j + 8)) * (g (a + 2)).toInt64 * (g (a + 3)).toInt64 + td_eL g (a + 8) (a) (lN (16 * i + 8)) (lN (16 * j + 8)) * (g (a + 6)).toInt64 * (g (a + 7)).toInt64 + td_eL g (a) (a + 4) (lN (16 * i + 8)) (lN (16 * j + 8)) * (g (a + 10)).toInt64 * (g (a + 11)).toInt64) hp hi hj hcov rfl rfl rfl rfl rfl
        refine lv_aload_n hx hb dX4_draw_74 rfl (lv_at hl 2 rfl) ?_
        refine lv_iload_n hx hb dX4_draw_75 rfl (lv_at hl 3 rfl) ?_
        refine lv_iconst (v := 4) hx hb dX4_draw_76 (by decide) ?_
        refine lv_iadd hx hb dX4_draw_77 ?_
        refine td_ti (nI (a + 4)) (nI_add a 4) ?_
        refine lv_iload_n hx hb dX4_draw_78 rfl (lv_at hl 3 rfl) ?_
        refine lv_bipush (v := 8) hx hb dX4_draw_79 (by decide) ?_
        refine lv_iadd hx hb dX4_draw_81 ?_
        refine td_ti (nI (a + 8)) (nI_add a 8) ?_
        refine lv_lload hx hb dX4_draw_82 (lv_at hl 1 rfl) ?_
        refine lv_lload hx hb dX4_draw_84 (lv_at hl 0 rfl) ?_
        refine td_csl (va_runV (As := [.int (nI (a + 4)), .int (nI (a + 8)), .long (lN (16 * i + 8)), .long (lN (16 * j + 8))]) (rest := []) ⟨hx, hb, hml, hown, hts⟩ (tm_edge l dC dI cI cJ cZ qM mP mC mN mD w h n mb mg tk g (a + 4) (a + 8) (lN (16 * i + 8)) (lN (16 * j + 8)) (by omega) (by omega)) (cwV 4 hts (td_gV (td_i12 (List.mem_of_getElem? (i := 23) rfl)) (td_i13 (List.mem_of_getElem? (i := 0) rfl)) (td_i15 (List.mem_of_getElem? (i := 17) rfl)) (td_i1 (List.mem_of_getElem? (i := 6) rfl)) (td_i13 (List.mem_of_getElem? (i := 1) rfl))) rfl rfl rfl (by decide +kernel) ⟨(Nat.le_of_ble_eq_true rfl), (Nat.le_of_ble_eq_true rfl)⟩) (td_pRV hK hZ hP [0, 1] rfl (va_recv hK hP (ci := 4) (q0 := 0) rfl rfl)) rfl rfl hl.1 rfl (lv_room (Nat.le_of_ble_eq_true rfl)) dX4_draw_86 ⟨Nat.zero_le _, Nat.zero_le _⟩) ?_
        refine lv_aload_n hx hb dX4_draw_89 rfl (lv_at hl 2 rfl) ?_
        refine va_get (D := (dC, dI)) (ci := 4) (v := .ref mP) (C := RX4) (T := TX4) (N := 11) hx hb hts td_fX4 hown hK hP 0 rfl rfl 4 (by decide) (hts (.fieldLink RX4 7 "TileDeskModel" "pieces" "[I") (td_i12 (List.mem_of_getElem? (i := 3) rfl))) (fun _ h9 => h9) rfl dX4_draw_90 ?_
        refine lv_iload_n hx hb dX4_draw_93 rfl (lv_at hl 3 rfl) ?_
        refine lv_iconst (v := 2) hx hb dX4_draw_94 (by decide) ?_
        refine lv_iadd hx hb dX4_draw_95 ?_
        refine td_ti (nI (a + 2)) (nI_add a 2) ?_
        refine td_iald hx hb hK hP 1 0 (a + 2) rfl rfl rfl (by omega) (by decide) dX4_draw_96 ?_
        refine lv_i2l (v := (g (a + 2)).toInt64) hx hb dX4_draw_97 rfl ?_
        refine lv_lmul hx hb dX4_draw_98 ?_
        refine lv_lstore (lv' := [(9, .long ((td_eL g (a + 4) (a + 8) (lN (16 * i + 8)) (lN (16 * j + 8))) * (g (a + 2)).toInt64)), (7, .long (lN (16 * j + 8))), (5, .long (lN (16 * i + 8))), (0, .ref qM), (1, .int (nI a)), (2, .int (nI i)), (3, .int (nI j)), (4, .int (nI t))]) hx hb dX4_draw_99 hl (by decide) rfl (fun ls hl => ?_)
        refine lv_aload_n hx hb dX4_draw_101 rfl (lv_at hl 3 rfl) ?_
        refine lv_iload_n hx hb dX4_draw_102 rfl (lv_at hl 4 rfl) ?_
        refine lv_bipush (v := 8) hx hb dX4_draw_103 (by decide) ?_
        refine lv_iadd hx hb dX4_draw_105 ?_
        refine td_ti (nI (a + 8)) (nI_add a 8) ?_
        refine lv_iload_n hx hb dX4_draw_106 rfl (lv_at hl 4 rfl) ?_
        refine lv_lload hx hb dX4_draw_107 (lv_at hl 2 rfl) ?_
        refine lv_lload hx hb dX4_draw_109 (lv_at hl 1 rfl) ?_
        refine td_csl (va_runV (As := [.int (nI (a + 8)), .int (nI a), .long (lN (16 * i + 8)), .long (lN (16 * j + 8))]) (rest := []) ⟨hx, hb, hml, hown, hts⟩ (tm_edge l dC dI cI cJ cZ qM mP mC mN mD w h n mb mg tk g (a + 8) a (lN (16 * i + 8)) (lN (16 * j + 8)) (by omega) (by omega)) (cwV 4 hts (td_gV (td_i12 (List.mem_of_getElem? (i := 23) rfl)) (td_i13 (List.mem_of_getElem? (i := 0) rfl)) (td_i15 (List.mem_of_getElem? (i := 17) rfl)) (td_i1 (List.mem_of_getElem? (i := 6) rfl)) (td_i13 (List.mem_of_getElem? (i := 1) rfl))) rfl rfl rfl (by decide +kernel) ⟨(Nat.le_of_ble_eq_true rfl), (Nat.le_of_ble_eq_true rfl)⟩) (td_pRV hK hZ hP [0, 1] rfl (va_recv hK hP (ci := 4) (q0 := 0) rfl rfl)) rfl rfl hl.1 rfl (lv_room (Nat.le_of_ble_eq_true rfl)) dX4_draw_111 ⟨Nat.zero_le _, Nat.zero_le _⟩) ?_
        refine lv_aload_n hx hb dX4_draw_114 rfl (lv_at hl 3 rfl) ?_
        refine va_get (D := (dC, dI)) (ci := 4) (v := .ref mP) (C := RX4) (T := TX4) (N := 11) hx hb hts td_fX4 hown hK hP 0 rfl rfl 4 (by decide) (hts (.fieldLink RX4 7 "TileDeskModel" "pieces" "[I") (td_i12 (List.mem_of_getElem? (i := 3) rfl))) (fun _ h9 => h9) rfl dX4_draw_115 ?_
        refine lv_iload_n hx hb dX4_draw_118 rfl (lv_at hl 4 rfl) ?_
        refine lv_bipush (v := 6) hx hb dX4_draw_119 (by decide) ?_
        refine lv_iadd hx hb dX4_draw_121 ?_
        refine td_ti (nI (a + 6)) (nI_add a 6) ?_
        refine td_iald hx hb hK hP 1 0 (a + 6) rfl rfl rfl (by omega) (by decide) dX4_draw_122 ?_
        refine lv_i2l (v := (g (a + 6)).toInt64) hx hb dX4_draw_123 rfl ?_
        refine lv_lmul hx hb dX4_draw_124 ?_
        refine lv_lstore (lv' := [(11, .long ((td_eL g (a + 8) a (lN (16 * i + 8)) (lN (16 * j + 8))) * (g (a + 6)).toInt64)), (9, .long ((td_eL g (a + 4) (a + 8) (lN (16 * i + 8)) (lN (16 * j + 8))) * (g (a + 2)).toInt64)), (7, .long (lN (16 * j + 8))), (5, .long (lN (16 * i + 8))), (0, .ref qM), (1, .int (nI a)), (2, .int (nI i)), (3, .int (nI j)), (4, .int (nI t))]) hx hb dX4_draw_125 hl (by decide) rfl (fun ls hl => ?_)
        refine lv_aload_n hx hb dX4_draw_127 rfl (lv_at hl 4 rfl) ?_
        refine lv_iload_n hx hb dX4_draw_128 rfl (lv_at hl 5 rfl) ?_
        refine lv_iload_n hx hb dX4_draw_129 rfl (lv_at hl 5 rfl) ?_
        refine lv_iconst (v := 4) hx hb dX4_draw_130 (by decide) ?_
        refine lv_iadd hx hb dX4_draw_131 ?_
        refine td_ti (nI (a + 4)) (nI_add a 4) ?_
        refine lv_lload hx hb dX4_draw_132 (lv_at hl 3 rfl) ?_
        refine lv_lload hx hb dX4_draw_134 (lv_at hl 2 rfl) ?_
        refine td_csl (va_runV (As := [.int (nI a), .int (nI (a + 4)), .long (lN (16 * i + 8)), .long (lN (16 * j + 8))]) (rest := []) ⟨hx, hb, hml, hown, hts⟩ (tm_edge l dC dI cI cJ cZ qM mP mC mN mD w h n mb mg tk g a (a + 4) (lN (16 * i + 8)) (lN (16 * j + 8)) (by omega) (by omega)) (cwV 4 hts (td_gV (td_i12 (List.mem_of_getElem? (i := 23) rfl)) (td_i13 (List.mem_of_getElem? (i := 0) rfl)) (td_i15 (List.mem_of_getElem? (i := 17) rfl)) (td_i1 (List.mem_of_getElem? (i := 6) rfl)) (td_i13 (List.mem_of_getElem? (i := 1) rfl))) rfl rfl rfl (by decide +kernel) ⟨(Nat.le_of_ble_eq_true rfl), (Nat.le_of_ble_eq_true rfl)⟩) (td_pRV hK hZ hP [0, 1] rfl (va_recv hK hP (ci := 4) (q0 := 0) rfl rfl)) rfl rfl hl.1 rfl (lv_room (Nat.le_of_ble_eq_true rfl)) dX4_draw_136 ⟨Nat.zero_le _, Nat.zero_le _⟩) ?_
        refine lv_aload_n hx hb dX4_draw_139 rfl (lv_at hl 4 rfl) ?_
        refine va_get (D := (dC, dI)) (ci := 4) (v := .ref mP) (C := RX4) (T := TX4) (N := 11) hx hb hts td_fX4 hown hK hP 0 rfl rfl 4 (by decide) (hts (.fieldLink RX4 7 "TileDeskModel" "pieces" "[I") (td_i12 (List.mem_of_getElem? (i := 3) rfl))) (fun _ h9 => h9) rfl dX4_draw_140 ?_
        refine lv_iload_n hx hb dX4_draw_143 rfl (lv_at hl 5 rfl) ?_
        refine lv_bipush (v := 10) hx hb dX4_draw_144 (by decide) ?_
        refine lv_iadd hx hb dX4_draw_146 ?_
        refine td_ti (nI (a + 10)) (nI_add a 10) ?_
        refine td_iald hx hb hK hP 1 0 (a + 10) rfl rfl rfl (by omega) (by decide) dX4_draw_147 ?_
        refine lv_i2l (v := (g (a + 10)).toInt64) hx hb dX4_draw_148 rfl ?_
        refine lv_lmul hx hb dX4_draw_149 ?_
        refine lv_lstore (lv' := [(13, .long ((td_eL g a (a + 4) (lN (16 * i + 8)) (lN (16 * j + 8))) * (g (a + 10)).toInt64)), (11, .long ((td_eL g (a + 8) a (lN (16 * i + 8)) (lN (16 * j + 8))) * (g (a + 6)).toInt64)), (9, .long ((td_eL g (a + 4) (a + 8) (lN (16 * i + 8)) (lN (16 * j + 8))) * (g (a + 2)).toInt64)), (7, .long (lN (16 * j + 8))), (5, .long (lN (16 * i + 8))), (0, .ref qM), (1, .int (nI a)), (2, .int (nI i)), (3, .int (nI j)), (4, .int (nI t))]) hx hb dX4_draw_150 hl (by decide) rfl (fun ls hl => ?_)
        refine lv_lload hx hb dX4_draw_152 (lv_at hl 2 rfl) ?_
        refine lv_lload hx hb dX4_draw_154 (lv_at hl 1 rfl) ?_
        refine lv_ladd hx hb dX4_draw_156 ?_
        refine lv_lload hx hb dX4_draw_157 (lv_at hl 0 rfl) ?_
        refine lv_ladd hx hb dX4_draw_159 ?_
        refine lv_lstore (lv' := [(15, .long ((((td_eL g (a + 4) (a + 8) (lN (16 * i + 8)) (lN (16 * j + 8))) * (g (a + 2)).toInt64) + ((td_eL g (a + 8) a (lN (16 * i + 8)) (lN (16 * j + 8))) * (g (a + 6)).toInt64)) + ((td_eL g a (a + 4) (lN (16 * i + 8)) (lN (16 * j + 8))) * (g (a + 10)).toInt64))), (13, .long ((td_eL g a (a + 4) (lN (16 * i + 8)) (lN (16 * j + 8))) * (g (a + 10)).toInt64)), (11, .long ((td_eL g (a + 8) a (lN (16 * i + 8)) (lN (16 * j + 8))) * (g (a + 6)).toInt64)), (9, .long ((td_eL g (a + 4) (a + 8) (lN (16 * i + 8)) (lN (16 * j + 8))) * (g (a + 2)).toInt64)), (7, .long (lN (16 * j + 8))), (5, .long (lN (16 * i + 8))), (0, .ref qM), (1, .int (nI a)), (2, .int (nI i)), (3, .int (nI j)), (4, .int (nI t))]) hx hb dX4_draw_160 hl (by decide) rfl (fun ls hl => ?_)
        refine lv_lload hx hb dX4_draw_162 (lv_at hl 0 rfl) ?_
        refine lv_aload_n hx hb dX4_draw_164 rfl (lv_at hl 6 rfl) ?_
        refine lv_iload_n hx hb dX4_draw_165 rfl (lv_at hl 7 rfl) ?_
        refine td_csl (va_runV (As := [.int (nI a)]) (rest := [.long ((((td_eL g (a + 4) (a + 8) (lN (16 * i + 8)) (lN (16 * j + 8))) * (g (a + 2)).toInt64) + ((td_eL g (a + 8) a (lN (16 * i + 8)) (lN (16 * j + 8))) * (g (a + 6)).toInt64)) + ((td_eL g a (a + 4) (lN (16 * i + 8)) (lN (16 * j + 8))) * (g (a + 10)).toInt64))]) ⟨hx, hb, hml, hown, hts⟩ (tm_area l dC dI cI cJ cZ qM mP mC mN mD w h n mb mg tk g a (by omega)) (cwV 1 hts (td_gV (td_i12 (List.mem_of_getElem? (i := 20) rfl)) (td_i12 (List.mem_of_getElem? (i := 21) rfl)) (td_i15 (List.mem_of_getElem? (i := 16) rfl)) (td_i1 (List.mem_of_getElem? (i := 6) rfl)) (td_i12 (List.mem_of_getElem? (i := 22) rfl))) rfl rfl rfl (by decide +kernel) ⟨(Nat.le_of_ble_eq_true rfl), (Nat.le_of_ble_eq_true rfl)⟩) (td_pRV hK hZ hP [0, 1] rfl (va_recv hK hP (ci := 4) (q0 := 0) rfl rfl)) rfl rfl hl.1 rfl (lv_room (Nat.le_of_ble_eq_true rfl)) dX4_draw_166 ⟨Nat.zero_le _, Nat.zero_le _⟩) ?_
        refine lv_ldiv hx hb dX4_draw_169 (fun z => by rw [z] at m2; exact absurd m2 (by decide)) ?_
        refine td_tl (lN (td_near g a (td_x i) (td_x j))) (m4) ?_
        refine lv_l2i (v := (lN (td_near g a (td_x i) (td_x j))).toInt32) hx hb dX4_draw_170 rfl ?_
        refine td_ti (nI (td_near g a (td_x i) (td_x j))) (lN_i _) ?_
        refine lv_istore (lv' := [(17, .int (nI (td_near g a (td_x i) (td_x j)))), (15, .long ((((td_eL g (a + 4) (a + 8) (lN (16 * i + 8)) (lN (16 * j + 8))) * (g (a + 2)).toInt64) + ((td_eL g (a + 8) a (lN (16 * i + 8)) (lN (16 * j + 8))) * (g (a + 6)).toInt64)) + ((td_eL g a (a + 4) (lN (16 * i + 8)) (lN (16 * j + 8))) * (g (a + 10)).toInt64))), (13, .long ((td_eL g a (a + 4) (lN (16 * i + 8)) (lN (16 * j + 8))) * (g (a + 10)).toInt64)), (11, .long ((td_eL g (a + 8) a (lN (16 * i + 8)) (lN (16 * j + 8))) * (g (a + 6)).toInt64)), (9, .long ((td_eL g (a + 4) (a + 8) (lN (16 * i + 8)) (lN (16 * j + 8))) * (g (a + 2)).toInt64)), (7, .long (lN (16 * j + 8))), (5, .long (lN (16 * i + 8))), (0, .ref qM), (1, .int (nI a)), (2, .int (nI i)), (3, .int (nI j)), (4, .int (nI t))]) hx hb dX4_draw_171 hl (by decide) rfl (fun ls hl => ?_)
        refine lv_iload hx hb dX4_draw_173 (lv_at hl 0 rfl) ?_
        refine lv_aload_n hx hb dX4_draw_175 rfl (lv_at hl 7 rfl) ?_
        refine va_get (D := (dC, dI)) (ci := 4) (v := .ref mN) (C := RX4) (T := TX4) (N := 11) hx hb hts td_fX4 hown hK hP 0 rfl rfl 9 (by decide) (hts (.fieldLink RX4 16 "TileDeskModel" "nears" "[I") (td_i12 (List.mem_of_getElem? (i := 8) rfl))) (fun _ h9 => h9) rfl dX4_draw_176 ?_
        refine lv_iload hx hb dX4_draw_179 (lv_at hl 11 rfl) ?_
        refine td_iald hx hb hK hP 3 0 t rfl rfl rfl (by omega) (by decide) dX4_draw_181 ?_
        refine td_ti (nI n0) (hn0) ?_
        refine lv_icmp_gt (tgt := 186) hx hb dX4_draw_182 (by decide) (fun c182 => ?_) (fun c182 => ?_)
        · have hlt2 : n0 < td_near g a (td_x i) (td_x j) := (nI_ltI (a := n0) (b := td_near g a (td_x i) (td_x j)) (by omega) (by omega)).mp c182
          refine lv_lload hx hb dX4_draw_186 (lv_at hl 4 rfl) ?_
          refine lv_aload_n hx hb dX4_draw_188 rfl (lv_at hl 7 rfl) ?_
          refine va_get (D := (dC, dI)) (ci := 4) (v := .ref mP) (C := RX4) (T := TX4) (N := 11) hx hb hts td_fX4 hown hK hP 0 rfl rfl 4 (by decide) (hts (.fieldLink RX4 7 "TileDeskModel" "pieces" "[I") (td_i12 (List.mem_of_getElem? (i := 3) rfl))) (fun _ h9 => h9) rfl dX4_draw_189 ?_
          refine lv_iload_n hx hb dX4_draw_192 rfl (lv_at hl 8 rfl) ?_
          refine lv_iconst (v := 3) hx hb dX4_draw_193 (by decide) ?_
          refine lv_iadd hx hb dX4_draw_194 ?_
          refine td_ti (nI (a + 3)) (nI_add a 3) ?_
          refine td_iald hx hb hK hP 1 0 (a + 3) rfl rfl rfl (by omega) (by decide) dX4_draw_195 ?_
          refine lv_i2l (v := (g (a + 3)).toInt64) hx hb dX4_draw_196 rfl ?_
          refine lv_lmul hx hb dX4_draw_197 ?_
          refine lv_lload hx hb dX4_draw_198 (lv_at hl 3 rfl) ?_
          refine lv_aload_n hx hb dX4_draw_200 rfl (lv_at hl 7 rfl) ?_
          refine va_get (D := (dC, dI)) (ci := 4) (v := .ref mP) (C := RX4) (T := TX4) (N := 11) hx hb hts td_fX4 hown hK hP 0 rfl rfl 4 (by decide) (hts (.fieldLink RX4 7 "TileDeskModel" "pieces" "[I") (td_i12 (List.mem_of_getElem? (i := 3) rfl))) (fun _ h9 => h9) rfl dX4_draw_201 ?_
          refine lv_iload_n hx hb dX4_draw_204 rfl (lv_at hl 8 rfl) ?_
          refine lv_bipush (v := 7) hx hb dX4_draw_205 (by decide) ?_
          refine lv_iadd hx hb dX4_draw_207 ?_
          refine td_ti (nI (a + 7)) (nI_add a 7) ?_
          refine td_iald hx hb hK hP 1 0 (a + 7) rfl rfl rfl (by omega) (by decide) dX4_draw_208 ?_
          refine lv_i2l (v := (g (a + 7)).toInt64) hx hb dX4_draw_209 rfl ?_
          refine lv_lmul hx hb dX4_draw_210 ?_
          refine lv_ladd hx hb dX4_draw_211 ?_
          refine lv_lload hx hb dX4_draw_212 (lv_at hl 2 rfl) ?_
          refine lv_aload_n hx hb dX4_draw_214 rfl (lv_at hl 7 rfl) ?_
          refine va_get (D := (dC, dI)) (ci := 4) (v := .ref mP) (C := RX4) (T := TX4) (N := 11) hx hb hts td_fX4 hown hK hP 0 rfl rfl 4 (by decide) (hts (.fieldLink RX4 7 "TileDeskModel" "pieces" "[I") (td_i12 (List.mem_of_getElem? (i := 3) rfl))) (fun _ h9 => h9) rfl dX4_draw_215 ?_
          refine lv_iload_n hx hb dX4_draw_218 rfl (lv_at hl 8 rfl) ?_
          refine lv_bipush (v := 11) hx hb dX4_draw_219 (by decide) ?_
          refine lv_iadd hx hb dX4_draw_221 ?_
          refine td_ti (nI (a + 11)) (nI_add a 11) ?_
          refine td_iald hx hb hK hP 1 0 (a + 11) rfl rfl rfl (by omega) (by decide) dX4_draw_222 ?_
          refine lv_i2l (v := (g (a + 11)).toInt64) hx hb dX4_draw_223 rfl ?_
          refine lv_lmul hx hb dX4_draw_224 ?_
          refine lv_ladd hx hb dX4_draw_225 ?_
          refine lv_lload hx hb dX4_draw_226 (lv_at hl 1 rfl) ?_
          refine lv_ldiv hx hb dX4_draw_228 (fun z => by rw [z] at m1; exact absurd m1 (by decide)) ?_
          refine td_tl (lN (td_lig g a (td_x i) (td_x j))) (m6) ?_
          refine lv_lstore (lv' := [(18, .long (lN (td_lig g a (td_x i) (td_x j)))), (17, .int (nI (td_near g a (td_x i) (td_x j)))), (15, .long ((((td_eL g (a + 4) (a + 8) (lN (16 * i + 8)) (lN (16 * j + 8))) * (g (a + 2)).toInt64) + ((td_eL g (a + 8) a (lN (16 * i + 8)) (lN (16 * j + 8))) * (g (a + 6)).toInt64)) + ((td_eL g a (a + 4) (lN (16 * i + 8)) (lN (16 * j + 8))) * (g (a + 10)).toInt64))), (13, .long ((td_eL g a (a + 4) (lN (16 * i + 8)) (lN (16 * j + 8))) * (g (a + 10)).toInt64)), (11, .long ((td_eL g (a + 8) a (lN (16 * i + 8)) (lN (16 * j + 8))) * (g (a + 6)).toInt64)), (9, .long ((td_eL g (a + 4) (a + 8) (lN (16 * i + 8)) (lN (16 * j + 8))) * (g (a + 2)).toInt64)), (7, .long (lN (16 * j + 8))), (5, .long (lN (16 * i + 8))), (0, .ref qM), (1, .int (nI a)), (2, .int (nI i)), (3, .int (nI j)), (4, .int (nI t))]) hx hb dX4_draw_229 hl (by decide) rfl (fun ls hl => ?_)
          refine lv_aload_n hx hb dX4_draw_231 rfl (lv_at hl 8 rfl) ?_
          refine va_get (D := (dC, dI)) (ci := 4) (v := .ref mP) (C := RX4) (T := TX4) (N := 11) hx hb hts td_fX4 hown hK hP 0 rfl rfl 4 (by decide) (hts (.fieldLink RX4 7 "TileDeskModel" "pieces" "[I") (td_i12 (List.mem_of_getElem? (i := 3) rfl))) (fun _ h9 => h9) rfl dX4_draw_232 ?_
          refine lv_iload_n hx hb dX4_draw_235 rfl (lv_at hl 9 rfl) ?_
          refine lv_bipush (v := 13) hx hb dX4_draw_236 (by decide) ?_
          refine lv_iadd hx hb dX4_draw_238 ?_
          refine td_ti (nI (a + 13)) (nI_add a 13) ?_
          refine td_iald hx hb hK hP 1 0 (a + 13) rfl rfl rfl (by omega) (by decide) dX4_draw_239 ?_
          refine td_ti (nI (g (a + 13)).toInt.toNat) (td_ofI t3) ?_
          refine lv_istore (lv' := [(20, .int (nI (g (a + 13)).toInt.toNat)), (18, .long (lN (td_lig g a (td_x i) (td_x j)))), (17, .int (nI (td_near g a (td_x i) (td_x j)))), (15, .long ((((td_eL g (a + 4) (a + 8) (lN (16 * i + 8)) (lN (16 * j + 8))) * (g (a + 2)).toInt64) + ((td_eL g (a + 8) a (lN (16 * i + 8)) (lN (16 * j + 8))) * (g (a + 6)).toInt64)) + ((td_eL g a (a + 4) (lN (16 * i + 8)) (lN (16 * j + 8))) * (g (a + 10)).toInt64))), (13, .long ((td_eL g a (a + 4) (lN (16 * i + 8)) (lN (16 * j + 8))) * (g (a + 10)).toInt64)), (11, .long ((td_eL g (a + 8) a (lN (16 * i + 8)) (lN (16 * j + 8))) * (g (a + 6)).toInt64)), (9, .long ((td_eL g (a + 4) (a + 8) (lN (16 * i + 8)) (lN (16 * j + 8))) * (g (a + 2)).toInt64)), (7, .long (lN (16 * j + 8))), (5, .long (lN (16 * i + 8))), (0, .ref qM), (1, .int (nI a)), (2, .int (nI i)), (3, .int (nI j)), (4, .int (nI t))]) hx hb dX4_draw_240 hl (by decide) rfl (fun ls hl => ?_)
          refine lv_aload_n hx hb dX4_draw_242 rfl (lv_at hl 9 rfl) ?_
          refine va_get (D := (dC, dI)) (ci := 4) (v := .ref mC) (C := RX4) (T := TX4) (N := 11) hx hb hts td_fX4 hown hK hP 0 rfl rfl 8 (by decide) (hts (.fieldLink RX4 13 "TileDeskModel" "colours" "[I") (td_i12 (List.mem_of_getElem? (i := 7) rfl))) (fun _ h9 => h9) rfl dX4_draw_243 ?_
          refine lv_iload hx hb dX4_draw_246 (lv_at hl 13 rfl) ?_
          refine lv_aload_n hx hb dX4_draw_248 rfl (lv_at hl 9 rfl) ?_
          refine va_get (D := (dC, dI)) (ci := 4) (v := .ref mP) (C := RX4) (T := TX4) (N := 11) hx hb hts td_fX4 hown hK hP 0 rfl rfl 4 (by decide) (hts (.fieldLink RX4 7 "TileDeskModel" "pieces" "[I") (td_i12 (List.mem_of_getElem? (i := 3) rfl))) (fun _ h9 => h9) rfl dX4_draw_249 ?_
          refine lv_iload_n hx hb dX4_draw_252 rfl (lv_at hl 10 rfl) ?_
          refine lv_bipush (v := 12) hx hb dX4_draw_253 (by decide) ?_
          refine lv_iadd hx hb dX4_draw_255 ?_
          refine td_ti (nI (a + 12)) (nI_add a 12) ?_
          refine td_iald hx hb hK hP 1 0 (a + 12) rfl rfl rfl (by omega) (by decide) dX4_draw_256 ?_
          refine td_ti (nI (g (a + 12)).toInt.toNat) (td_ofI t1) ?_
          refine lv_lload hx hb dX4_draw_257 (lv_at hl 1 rfl) ?_
          refine lv_iload hx hb dX4_draw_259 (lv_at hl 0 rfl) ?_
          refine lv_aload_n hx hb dX4_draw_261 rfl (lv_at hl 9 rfl) ?_
          refine va_get (D := (dC, dI)) (ci := 4) (v := .ref mC) (C := RX4) (T := TX4) (N := 11) hx hb hts td_fX4 hown hK hP 0 rfl rfl 8 (by decide) (hts (.fieldLink RX4 13 "TileDeskModel" "colours" "[I") (td_i12 (List.mem_of_getElem? (i := 7) rfl))) (fun _ h9 => h9) rfl dX4_draw_262 ?_
          refine lv_iload hx hb dX4_draw_265 (lv_at hl 13 rfl) ?_
          refine td_iald hx hb hK hP 2 0 t rfl rfl rfl (by omega) (by decide) dX4_draw_267 ?_
          refine td_ti (nI c0) (hc0) ?_
          refine td_csi (va_runS (As := [.int (nI (g (a + 12)).toInt.toNat), .long (lN (td_lig g a (td_x i) (td_x j))), .int (nI (g (a + 13)).toInt.toNat), .int (nI c0)]) (rest := [.int (nI t), .ref mC]) ⟨hx, hb, hml, hown, hts⟩ (tm_over l dC dI cI cJ cZ (g (a + 12)).toInt.toNat (td_lig g a (td_x i) (td_x j)) (g (a + 13)).toInt.toNat c0 (by omega) m7 (by omega) hc1) (va_cwS 4 hts (td_gS (td_i14 (List.mem_of_getElem? (i := 2) rfl)) (td_i14 (List.mem_of_getElem? (i := 3) rfl)) (td_i1 (List.mem_of_getElem? (i := 6) rfl)) (td_i14 (List.mem_of_getElem? (i := 4) rfl))) rfl rfl rfl (by decide +kernel) ⟨(Nat.le_of_ble_eq_true rfl), (Nat.le_of_ble_eq_true rfl)⟩) (td_pRS hK hZ hP [] rfl) rfl rfl hl.1 rfl (lv_room (Nat.le_of_ble_eq_true rfl)) dX4_draw_268 ⟨Nat.zero_le _, Nat.zero_le _⟩) ?_
          refine td_iast hx hb hK hP hD hS 2 0 t rfl rfl rfl (by omega) (by decide) dX4_draw_271 (fun H locs hP hD hS => ?_)
          have hP : va_P (dC, dI) vwCl [(qM, .inr (4, [.int 0, .int (nI w), .int (nI h), .int (nI n), .ref mP, .int mb, .int mg, .int tk, .ref mC, .ref mN, .ref mD])), (mP, .inl (cI, 7180, .inl g)), (mC, .inl (cI, 2304, .inl (upd fc t (nI (td_ov (g (a + 12)).toInt.toNat (td_lig g a (td_x i) (td_x j)) (g (a + 13)).toInt.toNat c0))))), (mN, .inl (cI, 2304, .inl fn))] H := hP
          have hD : va_D A [(qM, .inr (4, [.int 0, .int (nI w), .int (nI h), .int (nI n), .ref mP, .int mb, .int mg, .int tk, .ref mC, .ref mN, .ref mD])), (mP, .inl (cI, 7180, .inl g)), (mC, .inl (cI, 2304, .inl (upd fc t (nI (td_ov (g (a + 12)).toInt.toNat (td_lig g a (td_x i) (td_x j)) (g (a + 13)).toInt.toNat c0))))), (mN, .inl (cI, 2304, .inl fn))] := hD
          refine lv_aload_n hx hb dX4_draw_272 rfl (lv_at hl 9 rfl) ?_
          refine va_get (D := (dC, dI)) (ci := 4) (v := .ref mN) (C := RX4) (T := TX4) (N := 11) hx hb hts td_fX4 hown hK hP 0 rfl rfl 9 (by decide) (hts (.fieldLink RX4 16 "TileDeskModel" "nears" "[I") (td_i12 (List.mem_of_getElem? (i := 8) rfl))) (fun _ h9 => h9) rfl dX4_draw_273 ?_
          refine lv_iload hx hb dX4_draw_276 (lv_at hl 13 rfl) ?_
          refine lv_iload hx hb dX4_draw_278 (lv_at hl 0 rfl) ?_
          refine lv_sipush (v := 255) hx hb dX4_draw_280 (by decide) ?_
          refine lv_icmp_ne (tgt := 291) hx hb dX4_draw_283 (by decide) (fun c283 => ?_) (fun c283 => ?_)
          · have hC5 : ¬ (g (a + 13)).toInt.toNat = 255 := fun q => c283 (by rw [q]; rfl)
            refine lv_aload_n hx hb dX4_draw_291 rfl (lv_at hl 9 rfl) ?_
            refine va_get (D := (dC, dI)) (ci := 4) (v := .ref mN) (C := RX4) (T := TX4) (N := 11) hx hb hts td_fX4 hown hK hP 0 rfl rfl 9 (by decide) (hts (.fieldLink RX4 16 "TileDeskModel" "nears" "[I") (td_i12 (List.mem_of_getElem? (i := 8) rfl))) (fun _ h9 => h9) rfl dX4_draw_292 ?_
            refine lv_iload hx hb dX4_draw_295 (lv_at hl 13 rfl) ?_
            refine td_iald hx hb hK hP 3 0 t rfl rfl rfl (by omega) (by decide) dX4_draw_297 ?_
            refine td_ti (nI n0) (hn0) ?_
            refine td_iast hx hb hK hP hD hS 3 0 t rfl rfl rfl (by omega) (by decide) dX4_draw_298 (fun H locs hP hD hS => ?_)
            have hP : va_P (dC, dI) vwCl [(qM, .inr (4, [.int 0, .int (nI w), .int (nI h), .int (nI n), .ref mP, .int mb, .int mg, .int tk, .ref mC, .ref mN, .ref mD])), (mP, .inl (cI, 7180, .inl g)), (mC, .inl (cI, 2304, .inl (upd fc t (nI (td_ov (g (a + 12)).toInt.toNat (td_lig g a (td_x i) (td_x j)) (g (a + 13)).toInt.toNat c0))))), (mN, .inl (cI, 2304, .inl (upd fn t (nI n0))))] H := hP
            have hD : va_D A [(qM, .inr (4, [.int 0, .int (nI w), .int (nI h), .int (nI n), .ref mP, .int mb, .int mg, .int tk, .ref mC, .ref mN, .ref mD])), (mP, .inl (cI, 7180, .inl g)), (mC, .inl (cI, 2304, .inl (upd fc t (nI (td_ov (g (a + 12)).toInt.toNat (td_lig g a (td_x i) (td_x j)) (g (a + 13)).toInt.toNat c0))))), (mN, .inl (cI, 2304, .inl (upd fn t (nI n0))))] := hD
            have hP9 := hP.sub (ws' := [(qM, .inr (4, [.int 0, .int (nI w), .int (nI h), .int (nI n), .ref mP, .int mb, .int mg, .int tk, .ref mC, .ref mN, .ref mD])), (mP, .inl (cI, 7180, .inl g)), (mC, .inl (cI, 2304, .inl (upd fc t (nI (td_ov (g (a + 12)).toInt.toNat (td_lig g a (td_x i) (td_x j)) (g (a + 13)).toInt.toNat c0))))), (mN, .inl (cI, 2304, .inl (upd fn t (nI n0))))]) [0, 1, 2, 3] rfl
            have hD9 := hD.sub (ws' := [(qM, .inr (4, [.int 0, .int (nI w), .int (nI h), .int (nI n), .ref mP, .int mb, .int mg, .int tk, .ref mC, .ref mN, .ref mD])), (mP, .inl (cI, 7180, .inl g)), (mC, .inl (cI, 2304, .inl (upd fc t (nI (td_ov (g (a + 12)).toInt.toNat (td_lig g a (td_x i) (td_x j)) (g (a + 13)).toInt.toNat c0))))), (mN, .inl (cI, 2304, .inl (upd fn t (nI n0))))]) [0, 1, 2, 3] (by decide) rfl
            exact td_rwv (upd fc t (nI (td_ov (g (a + 12)).toInt.toNat (td_lig g a (td_x i) (td_x j)) (g (a + 13)).toInt.toNat c0)), upd fn t (nI n0)) hx hb hr hlocks hK (⟨fun z hz => ⟨pk_un hz, pk_un hz⟩, by rw [td_stp1 hcov]; unfold td_pt; rw [if_neg (by omega)]; exact pk_us, by rw [td_stp1 hcov]; unfold td_pt; rw [if_neg (by omega)]; show upd _ _ _ _ = nI (if _ then _ else _); rw [pk_us, if_neg hC5]⟩) hP9 hD9 hS dX4_draw_299
          · have hC5 : (g (a + 13)).toInt.toNat = 255 := (nI_eq (a := (g (a + 13)).toInt.toNat) (b := 255) (by omega) (by decide)).mp c283
            refine lv_iload hx hb dX4_draw_286 (lv_at hl 2 rfl) ?_
            refine lv_goto (tgt := 298) hx hb dX4_draw_288 (by decide) ?_
            refine td_iast hx hb hK hP hD hS 3 0 t rfl rfl rfl (by omega) (by decide) dX4_draw_298 (fun H locs hP hD hS => ?_)
            have hP : va_P (dC, dI) vwCl [(qM, .inr (4, [.int 0, .int (nI w), .int (nI h), .int (nI n), .ref mP, .int mb, .int mg, .int tk, .ref mC, .ref mN, .ref mD])), (mP, .inl (cI, 7180, .inl g)), (mC, .inl (cI, 2304, .inl (upd fc t (nI (td_ov (g (a + 12)).toInt.toNat (td_lig g a (td_x i) (td_x j)) (g (a + 13)).toInt.toNat c0))))), (mN, .inl (cI, 2304, .inl (upd fn t (nI (td_near g a (td_x i) (td_x j))))))] H := hP
            have hD : va_D A [(qM, .inr (4, [.int 0, .int (nI w), .int (nI h), .int (nI n), .ref mP, .int mb, .int mg, .int tk, .ref mC, .ref mN, .ref mD])), (mP, .inl (cI, 7180, .inl g)), (mC, .inl (cI, 2304, .inl (upd fc t (nI (td_ov (g (a + 12)).toInt.toNat (td_lig g a (td_x i) (td_x j)) (g (a + 13)).toInt.toNat c0))))), (mN, .inl (cI, 2304, .inl (upd fn t (nI (td_near g a (td_x i) (td_x j))))))] := hD
            have hP9 := hP.sub (ws' := [(qM, .inr (4, [.int 0, .int (nI w), .int (nI h), .int (nI n), .ref mP, .int mb, .int mg, .int tk, .ref mC, .ref mN, .ref mD])), (mP, .inl (cI, 7180, .inl g)), (mC, .inl (cI, 2304, .inl (upd fc t (nI (td_ov (g (a + 12)).toInt.toNat (td_lig g a (td_x i) (td_x j)) (g (a + 13)).toInt.toNat c0))))), (mN, .inl (cI, 2304, .inl (upd fn t (nI (td_near g a (td_x i) (td_x j))))))]) [0, 1, 2, 3] rfl
            have hD9 := hD.sub (ws' := [(qM, .inr (4, [.int 0, .int (nI w), .int (nI h), .int (nI n), .ref mP, .int mb, .int mg, .int tk, .ref mC, .ref mN, .ref mD])), (mP, .inl (cI, 7180, .inl g)), (mC, .inl (cI, 2304, .inl (upd fc t (nI (td_ov (g (a + 12)).toInt.toNat (td_lig g a (td_x i) (td_x j)) (g (a + 13)).toInt.toNat c0))))), (mN, .inl (cI, 2304, .inl (upd fn t (nI (td_near g a (td_x i) (td_x j))))))]) [0, 1, 2, 3] (by decide) rfl
            exact td_rwv (upd fc t (nI (td_ov (g (a + 12)).toInt.toNat (td_lig g a (td_x i) (td_x j)) (g (a + 13)).toInt.toNat c0)), upd fn t (nI (td_near g a (td_x i) (td_x j)))) hx hb hr hlocks hK (⟨fun z hz => ⟨pk_un hz, pk_un hz⟩, by rw [td_stp1 hcov]; unfold td_pt; rw [if_neg (by omega)]; exact pk_us, by rw [td_stp1 hcov]; unfold td_pt; rw [if_neg (by omega)]; show upd _ _ _ _ = nI (if _ then _ else _); rw [pk_us, if_pos hC5]⟩) hP9 hD9 hS dX4_draw_299
        · have hge : td_near g a (td_x i) (td_x j) ≤ n0 := by rcases Nat.lt_or_ge n0 (td_near g a (td_x i) (td_x j)) with q | q; exact absurd (nI_lt q (by omega)) c182; exact q
          have hP9 := hP.sub (ws' := [(qM, .inr (4, [.int 0, .int (nI w), .int (nI h), .int (nI n), .ref mP, .int mb, .int mg, .int tk, .ref mC, .ref mN, .ref mD])), (mP, .inl (cI, 7180, .inl g)), (mC, .inl (cI, 2304, .inl fc)), (mN, .inl (cI, 2304, .inl fn))]) [0, 1, 2, 3] rfl
          have hD9 := hD.sub (ws' := [(qM, .inr (4, [.int 0, .int (nI w), .int (nI h), .int (nI n), .ref mP, .int mb, .int mg, .int tk, .ref mC, .ref mN, .ref mD])), (mP, .inl (cI, 7180, .inl g)), (mC, .inl (cI, 2304, .inl fc)), (mN, .inl (cI, 2304, .inl fn))]) [0, 1, 2, 3] (by decide) rfl
          exact td_rwv (fc, fn) hx hb hr hlocks hK (⟨fun z _ => ⟨rfl, rfl⟩, by rw [td_stp1 hcov, td_pt0 hge]; exact hc0, by rw [td_stp1 hcov, td_pt0 hge]; exact hn0⟩) hP9 hD9 hS dX4_draw_185
      · have hP9 := hP.sub (ws' := [(qM, .inr (4, [.int 0, .int (nI w), .int (nI h), .int (nI n), .ref mP, .int mb, .int mg, .int tk, .ref mC, .ref mN, .ref mD])), (mP, .inl (cI, 7180, .inl g)), (mC, .inl (cI, 2304, .inl fc)), (mN, .inl (cI, 2304, .inl fn))]) [0, 1, 2, 3] rfl
        have hD9 := hD.sub (ws' := [(qM, .inr (4, [.int 0, .int (nI w), .int (nI h), .int (nI n), .ref mP, .int mb, .int mg, .int tk, .ref mC, .ref mN, .ref mD])), (mP, .inl (cI, 7180, .inl g)), (mC, .inl (cI, 2304, .inl fc)), (mN, .inl (cI, 2304, .inl fn))]) [0, 1, 2, 3] (by decide) rfl
        exact td_rwv (fc, fn) hx hb hr hlocks hK (⟨fun z _ => ⟨rfl, rfl⟩, by rw [td_stp0 (fun z => c70 ((td_m32 hp.1 hp.2.1 hi hj).mpr z.2.2))]; exact hc0, by rw [td_stp0 (fun z => c70 ((td_m32 hp.1 hp.2.1 hi hj).mpr z.2.2))]; exact hn0⟩) hP9 hD9 hS dX4_draw_73
