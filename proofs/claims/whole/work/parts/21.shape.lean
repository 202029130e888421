set_option maxHeartbeats 4000000 in
set_option maxRecDepth 100000 in
/-- Shape() -/
theorem td_Shape_init (l : Launch) (dC : Nat → ClassId) (dI : Nat → Nat → Nat) (cI cJ cZ : ClassId) (sz : Nat) (qS : Nat) : Met l yX0_init wsX0_init ({ frames := 1, cells := 5, slots := 15, locals := 12 }) (td_WP (dC, dI) vwCl (td_T cI cJ cZ) td_nl [(qS, .inr (0, [.null, .null, .null, .null, .null]))] sz [.ref qS]) (va_Qv (S := Nat × Nat × Nat × Nat × Nat) (fun u => True) (td_B (dC, dI) vwCl (td_T cI cJ cZ) (va_A [(qS, .inr (0, [.null, .null, .null, .null, .null]))] sz) (fun (u : Nat × Nat × Nat × Nat × Nat) => [(qS, .inr (0, [.ref u.1, .ref u.2.1, .ref u.2.2.1, .ref u.2.2.2.1, .ref u.2.2.2.2])), (u.1, .inl (cJ, 3, .inr (.inl (fun _ => 0)))), (u.2.1, .inl (cJ, 3, .inr (.inl (fun _ => 0)))), (u.2.2.1, .inl (cJ, 3, .inr (.inl (vp_updL (vp_updL (vp_updL (fun _ => 0) 0 1) 1 1) 2 1)))), (u.2.2.2.1, .inl (cJ, 3, .inr (.inl (fun _ => 0)))), (u.2.2.2.2, .inl (cJ, 3, .inr (.inl (fun _ => 0))))])) (va_A [(qS, .inr (0, [.null, .null, .null, .null, .null]))] sz)) 5 15 (va_A [(qS, .inr (0, [.null, .null, .null, .null, .null]))] sz) := by
  refine Met.ofW (cc := cX0_init) (maxL := 1) (ret := none) (by decide) rfl ?_
  intro p e s m args below meth c s₁ B hml hv
  obtain ⟨rfl, hsz, hP, hK, hZ, hD0⟩ := hv
  have hx := B.exec
  have hb := B.bytes
  have hr := B.returns
  have hts := atoms_spec (ws := wsX0_init) B.pre
  have hown : s.vm.findClass RX0 = some m.cls := findClass_of_methodNamed B.named
  have hlocks := B.notSynchronized
  have hin : meth.name = "<init>" := (name_of_methodNamed B.named B.method).1
  subst hsz
  have hD := hD0.self (sz := s.heap.size)
  generalize hAe : va_A [(qS, .inr (0, [.null, .null, .null, .null, .null]))] s.heap.size = A at hD ⊢
  have hA : ∀ q : Nat, s.heap.size ≤ q → A q := fun q h => by rw [← hAe]; exact Or.inr h
  have hS : va_S A s.heap s.heap [] := va_S.rf
  have hP : va_P (dC, dI) vwCl [(qS, .inr (0, [.null, .null, .null, .null, .null]))] s.heap := hP
  have hl := lv_entry ([.ref qS]) (n := 1) (Nat.le_of_ble_eq_true rfl)
  rw [lg_entry_eq]
  generalize (lg_sl ([.ref qS]) ++ List.replicate (1 - (lg_sl ([.ref qS])).length) Slot.unset).toArray = ls at hl ⊢
  have hl : lv_has ls 1 [(0, .ref qS)] := hl
  refine lv_aload_n hx hb dX0_init_0 rfl (lv_at hl 0 rfl) ?_
  refine W.objInit hx hb hown (hts (.methodLink RX0 3 objectInit) (td_i1 (List.mem_of_getElem? (i := 20) rfl))) (hts (.instanceMethod objectInit) (td_i1 (List.mem_of_getElem? (i := 14) rfl))) (hts _ (td_i1 (List.mem_of_getElem? (i := 15) rfl))) rfl (by rw [hml]; exact hl.1) rfl dX0_init_1 (Nat.le_of_ble_eq_true rfl) (Nat.le_of_ble_eq_true rfl) ?_
  refine W.eq (g2 := F0 m 4 ls []) rfl ?_
  refine lv_aload_n hx hb dX0_init_4 rfl (lv_at hl 0 rfl) ?_
  refine lv_iconst (v := 3) hx hb dX0_init_5 (by decide) ?_
  refine td_newa (a0 := (3, .inr (.inl (fun _ => 0)))) (atype := .long) 1 hx hb (hts (.arrayClass .long) (td_i0 (List.mem_of_getElem? (i := 0) rfl))) rfl hK hP hD hS hA rfl (td_raJ s) (fun _ => rfl) rfl (by decide) (by decide) (Nat.le_of_ble_eq_true rfl) (Nat.le_of_ble_eq_true rfl) dX0_init_6 (fun bX H hP hD hS => ?_)
  have hP : va_P (dC, dI) vwCl [(qS, .inr (0, [.null, .null, .null, .null, .null])), (bX, .inl (cJ, 3, .inr (.inl (fun _ => 0))))] H := hP
  have hD : va_D A [(qS, .inr (0, [.null, .null, .null, .null, .null])), (bX, .inl (cJ, 3, .inr (.inl (fun _ => 0))))] := hD
  refine W.widen (k := 1) (n := 3) (by omega) (by omega) ?_
  refine va_putF (D := (dC, dI)) (ci := 0) (v := .ref bX) (ty := .array .long) (C := RX0) (T := TX0) (N := 5) hx hb hts td_fX0 tyX0 tyX0_ok nmX0 hown hK hP hD hS 0 rfl rfl 0 (by decide) (hts (.fieldLink RX0 9 "TileDesk$Shape" "xs" "[J") (td_i1 (List.mem_of_getElem? (i := 21) rfl))) (fun _ h9 => h9) rfl hin rfl (by decide +kernel) rfl rfl (Nat.le_of_ble_eq_true rfl) dX0_init_8 (fun H locs hP hD hS => ?_)
  have hP : va_P (dC, dI) vwCl [(qS, .inr (0, [.ref bX, .null, .null, .null, .null])), (bX, .inl (cJ, 3, .inr (.inl (fun _ => 0))))] H := hP
  have hD : va_D A [(qS, .inr (0, [.ref bX, .null, .null, .null, .null])), (bX, .inl (cJ, 3, .inr (.inl (fun _ => 0))))] := hD
  refine lv_aload_n hx hb dX0_init_11 rfl (lv_at hl 0 rfl) ?_
  refine lv_iconst (v := 3) hx hb dX0_init_12 (by decide) ?_
  refine td_newa (a0 := (3, .inr (.inl (fun _ => 0)))) (atype := .long) 1 hx hb (hts (.arrayClass .long) (td_i0 (List.mem_of_getElem? (i := 0) rfl))) rfl hK hP hD hS hA rfl (td_raJ s) (fun _ => rfl) rfl (by decide) (by decide) (Nat.le_of_ble_eq_true rfl) (Nat.le_of_ble_eq_true rfl) dX0_init_13 (fun bY H hP hD hS => ?_)
  have hP : va_P (dC, dI) vwCl [(qS, .inr (0, [.ref bX, .null, .null, .null, .null])), (bX, .inl (cJ, 3, .inr (.inl (fun _ => 0)))), (bY, .inl (cJ, 3, .inr (.inl (fun _ => 0))))] H := hP
  have hD : va_D A [(qS, .inr (0, [.ref bX, .null, .null, .null, .null])), (bX, .inl (cJ, 3, .inr (.inl (fun _ => 0)))), (bY, .inl (cJ, 3, .inr (.inl (fun _ => 0))))] := hD
  refine W.widen (k := 2) (n := 6) (by omega) (by omega) ?_
  refine va_putF (D := (dC, dI)) (ci := 0) (v := .ref bY) (ty := .array .long) (C := RX0) (T := TX0) (N := 5) hx hb hts td_fX0 tyX0 tyX0_ok nmX0 hown hK hP hD hS 0 rfl rfl 1 (by decide) (hts (.fieldLink RX0 15 "TileDesk$Shape" "ys" "[J") (td_i1 (List.mem_of_getElem? (i := 22) rfl))) (fun _ h9 => h9) rfl hin rfl (by decide +kernel) rfl rfl (Nat.le_of_ble_eq_true rfl) dX0_init_15 (fun H locs hP hD hS => ?_)
  have hP : va_P (dC, dI) vwCl [(qS, .inr (0, [.ref bX, .ref bY, .null, .null, .null])), (bX, .inl (cJ, 3, .inr (.inl (fun _ => 0)))), (bY, .inl (cJ, 3, .inr (.inl (fun _ => 0))))] H := hP
  have hD : va_D A [(qS, .inr (0, [.ref bX, .ref bY, .null, .null, .null])), (bX, .inl (cJ, 3, .inr (.inl (fun _ => 0)))), (bY, .inl (cJ, 3, .inr (.inl (fun _ => 0))))] := hD
  refine lv_aload_n hx hb dX0_init_18 rfl (lv_at hl 0 rfl) ?_
  refine lv_iconst (v := 3) hx hb dX0_init_19 (by decide) ?_
  refine td_newa (a0 := (3, .inr (.inl (fun _ => 0)))) (atype := .long) 1 hx hb (hts (.arrayClass .long) (td_i0 (List.mem_of_getElem? (i := 0) rfl))) rfl hK hP hD hS hA rfl (td_raJ s) (fun _ => rfl) rfl (by decide) (by decide) (Nat.le_of_ble_eq_true rfl) (Nat.le_of_ble_eq_true rfl) dX0_init_20 (fun bR H hP hD hS => ?_)
  have hP : va_P (dC, dI) vwCl [(qS, .inr (0, [.ref bX, .ref bY, .null, .null, .null])), (bX, .inl (cJ, 3, .inr (.inl (fun _ => 0)))), (bY, .inl (cJ, 3, .inr (.inl (fun _ => 0)))), (bR, .inl (cJ, 3, .inr (.inl (fun _ => 0))))] H := hP
  have hD : va_D A [(qS, .inr (0, [.ref bX, .ref bY, .null, .null, .null])), (bX, .inl (cJ, 3, .inr (.inl (fun _ => 0)))), (bY, .inl (cJ, 3, .inr (.inl (fun _ => 0)))), (bR, .inl (cJ, 3, .inr (.inl (fun _ => 0))))] := hD
  refine W.widen (k := 3) (n := 9) (by omega) (by omega) ?_
  refine lv_dup hx hb dX0_init_22 rfl ?_
  refine lv_iconst (v := 0) hx hb dX0_init_23 (by decide) ?_
  refine lv_lconst (v := 1) hx hb dX0_init_24 (by decide) ?_
  refine td_last hx hb hK hP hD hS 3 1 0 rfl rfl rfl (by decide) (by decide) dX0_init_25 (fun H locs hP hD hS => ?_)
  have hP : va_P (dC, dI) vwCl [(qS, .inr (0, [.ref bX, .ref bY, .null, .null, .null])), (bX, .inl (cJ, 3, .inr (.inl (fun _ => 0)))), (bY, .inl (cJ, 3, .inr (.inl (fun _ => 0)))), (bR, .inl (cJ, 3, .inr (.inl (vp_updL (fun _ => 0) 0 1))))] H := hP
  have hD : va_D A [(qS, .inr (0, [.ref bX, .ref bY, .null, .null, .null])), (bX, .inl (cJ, 3, .inr (.inl (fun _ => 0)))), (bY, .inl (cJ, 3, .inr (.inl (fun _ => 0)))), (bR, .inl (cJ, 3, .inr (.inl (vp_updL (fun _ => 0) 0 1))))] := hD
  refine lv_dup hx hb dX0_init_26 rfl ?_
  refine lv_iconst (v := 1) hx hb dX0_init_27 (by decide) ?_
  refine lv_lconst (v := 1) hx hb dX0_init_28 (by decide) ?_
  refine td_last hx hb hK hP hD hS 3 1 1 rfl rfl rfl (by decide) (by decide) dX0_init_29 (fun H locs hP hD hS => ?_)
  have hP : va_P (dC, dI) vwCl [(qS, .inr (0, [.ref bX, .ref bY, .null, .null, .null])), (bX, .inl (cJ, 3, .inr (.inl (fun _ => 0)))), (bY, .inl (cJ, 3, .inr (.inl (fun _ => 0)))), (bR, .inl (cJ, 3, .inr (.inl (vp_updL (vp_updL (fun _ => 0) 0 1) 1 1))))] H := hP
  have hD : va_D A [(qS, .inr (0, [.ref bX, .ref bY, .null, .null, .null])), (bX, .inl (cJ, 3, .inr (.inl (fun _ => 0)))), (bY, .inl (cJ, 3, .inr (.inl (fun _ => 0)))), (bR, .inl (cJ, 3, .inr (.inl (vp_updL (vp_updL (fun _ => 0) 0 1) 1 1))))] := hD
  refine lv_dup hx hb dX0_init_30 rfl ?_
  refine lv_iconst (v := 2) hx hb dX0_init_31 (by decide) ?_
  refine lv_lconst (v := 1) hx hb dX0_init_32 (by decide) ?_
  refine td_last hx hb hK hP hD hS 3 1 2 rfl rfl rfl (by decide) (by decide) dX0_init_33 (fun H locs hP hD hS => ?_)
  have hP : va_P (dC, dI) vwCl [(qS, .inr (0, [.ref bX, .ref bY, .null, .null, .null])), (bX, .inl (cJ, 3, .inr (.inl (fun _ => 0)))), (bY, .inl (cJ, 3, .inr (.inl (fun _ => 0)))), (bR, .inl (cJ, 3, .inr (.inl (vp_updL (vp_updL (vp_updL (fun _ => 0) 0 1) 1 1) 2 1))))] H := hP
  have hD : va_D A [(qS, .inr (0, [.ref bX, .ref bY, .null, .null, .null])), (bX, .inl (cJ, 3, .inr (.inl (fun _ => 0)))), (bY, .inl (cJ, 3, .inr (.inl (fun _ => 0)))), (bR, .inl (cJ, 3, .inr (.inl (vp_updL (vp_updL (vp_updL (fun _ => 0) 0 1) 1 1) 2 1))))] := hD
  refine va_putF (D := (dC, dI)) (ci := 0) (v := .ref bR) (ty := .array .long) (C := RX0) (T := TX0) (N := 5) hx hb hts td_fX0 tyX0 tyX0_ok nmX0 hown hK hP hD hS 0 rfl rfl 2 (by decide) (hts (.fieldLink RX0 18 "TileDesk$Shape" "rs" "[J") (td_i1 (List.mem_of_getElem? (i := 23) rfl))) (fun _ h9 => h9) rfl hin rfl (by decide +kernel) rfl rfl (Nat.le_of_ble_eq_true rfl) dX0_init_34 (fun H locs hP hD hS => ?_)
  have hP : va_P (dC, dI) vwCl [(qS, .inr (0, [.ref bX, .ref bY, .ref bR, .null, .null])), (bX, .inl (cJ, 3, .inr (.inl (fun _ => 0)))), (bY, .inl (cJ, 3, .inr (.inl (fun _ => 0)))), (bR, .inl (cJ, 3, .inr (.inl (vp_updL (vp_updL (vp_updL (fun _ => 0) 0 1) 1 1) 2 1))))] H := hP
  have hD : va_D A [(qS, .inr (0, [.ref bX, .ref bY, .ref bR, .null, .null])), (bX, .inl (cJ, 3, .inr (.inl (fun _ => 0)))), (bY, .inl (cJ, 3, .inr (.inl (fun _ => 0)))), (bR, .inl (cJ, 3, .inr (.inl (vp_updL (vp_updL (vp_updL (fun _ => 0) 0 1) 1 1) 2 1))))] := hD
  refine lv_aload_n hx hb dX0_init_37 rfl (lv_at hl 0 rfl) ?_
  refine lv_iconst (v := 3) hx hb dX0_init_38 (by decide) ?_
  refine td_newa (a0 := (3, .inr (.inl (fun _ => 0)))) (atype := .long) 1 hx hb (hts (.arrayClass .long) (td_i0 (List.mem_of_getElem? (i := 0) rfl))) rfl hK hP hD hS hA rfl (td_raJ s) (fun _ => rfl) rfl (by decide) (by decide) (Nat.le_of_ble_eq_true rfl) (Nat.le_of_ble_eq_true rfl) dX0_init_39 (fun bL H hP hD hS => ?_)
  have hP : va_P (dC, dI) vwCl [(qS, .inr (0, [.ref bX, .ref bY, .ref bR, .null, .null])), (bX, .inl (cJ, 3, .inr (.inl (fun _ => 0)))), (bY, .inl (cJ, 3, .inr (.inl (fun _ => 0)))), (bR, .inl (cJ, 3, .inr (.inl (vp_updL (vp_updL (vp_updL (fun _ => 0) 0 1) 1 1) 2 1)))), (bL, .inl (cJ, 3, .inr (.inl (fun _ => 0))))] H := hP
  have hD : va_D A [(qS, .inr (0, [.ref bX, .ref bY, .ref bR, .null, .null])), (bX, .inl (cJ, 3, .inr (.inl (fun _ => 0)))), (bY, .inl (cJ, 3, .inr (.inl (fun _ => 0)))), (bR, .inl (cJ, 3, .inr (.inl (vp_updL (vp_updL (vp_updL (fun _ => 0) 0 1) 1 1) 2 1)))), (bL, .inl (cJ, 3, .inr (.inl (fun _ => 0))))] := hD
  refine W.widen (k := 4) (n := 12) (by omega) (by omega) ?_
  refine va_putF (D := (dC, dI)) (ci := 0) (v := .ref bL) (ty := .array .long) (C := RX0) (T := TX0) (N := 5) hx hb hts td_fX0 tyX0 tyX0_ok nmX0 hown hK hP hD hS 0 rfl rfl 3 (by decide) (hts (.fieldLink RX0 21 "TileDesk$Shape" "lights" "[J") (td_i2 (List.mem_of_getElem? (i := 0) rfl))) (fun _ h9 => h9) rfl hin rfl (by decide +kernel) rfl rfl (Nat.le_of_ble_eq_true rfl) dX0_init_41 (fun H locs hP hD hS => ?_)
  have hP : va_P (dC, dI) vwCl [(qS, .inr (0, [.ref bX, .ref bY, .ref bR, .ref bL, .null])), (bX, .inl (cJ, 3, .inr (.inl (fun _ => 0)))), (bY, .inl (cJ, 3, .inr (.inl (fun _ => 0)))), (bR, .inl (cJ, 3, .inr (.inl (vp_updL (vp_updL (vp_updL (fun _ => 0) 0 1) 1 1) 2 1)))), (bL, .inl (cJ, 3, .inr (.inl (fun _ => 0))))] H := hP
  have hD : va_D A [(qS, .inr (0, [.ref bX, .ref bY, .ref bR, .ref bL, .null])), (bX, .inl (cJ, 3, .inr (.inl (fun _ => 0)))), (bY, .inl (cJ, 3, .inr (.inl (fun _ => 0)))), (bR, .inl (cJ, 3, .inr (.inl (vp_updL (vp_updL (vp_updL (fun _ => 0) 0 1) 1 1) 2 1)))), (bL, .inl (cJ, 3, .inr (.inl (fun _ => 0))))] := hD
  refine lv_aload_n hx hb dX0_init_44 rfl (lv_at hl 0 rfl) ?_
  refine lv_iconst (v := 3) hx hb dX0_init_45 (by decide) ?_
  refine td_newa (a0 := (3, .inr (.inl (fun _ => 0)))) (atype := .long) 1 hx hb (hts (.arrayClass .long) (td_i0 (List.mem_of_getElem? (i := 0) rfl))) rfl hK hP hD hS hA rfl (td_raJ s) (fun _ => rfl) rfl (by decide) (by decide) (Nat.le_of_ble_eq_true rfl) (Nat.le_of_ble_eq_true rfl) dX0_init_46 (fun bW H hP hD hS => ?_)
  have hP : va_P (dC, dI) vwCl [(qS, .inr (0, [.ref bX, .ref bY, .ref bR, .ref bL, .null])), (bX, .inl (cJ, 3, .inr (.inl (fun _ => 0)))), (bY, .inl (cJ, 3, .inr (.inl (fun _ => 0)))), (bR, .inl (cJ, 3, .inr (.inl (vp_updL (vp_updL (vp_updL (fun _ => 0) 0 1) 1 1) 2 1)))), (bL, .inl (cJ, 3, .inr (.inl (fun _ => 0)))), (bW, .inl (cJ, 3, .inr (.inl (fun _ => 0))))] H := hP
  have hD : va_D A [(qS, .inr (0, [.ref bX, .ref bY, .ref bR, .ref bL, .null])), (bX, .inl (cJ, 3, .inr (.inl (fun _ => 0)))), (bY, .inl (cJ, 3, .inr (.inl (fun _ => 0)))), (bR, .inl (cJ, 3, .inr (.inl (vp_updL (vp_updL (vp_updL (fun _ => 0) 0 1) 1 1) 2 1)))), (bL, .inl (cJ, 3, .inr (.inl (fun _ => 0)))), (bW, .inl (cJ, 3, .inr (.inl (fun _ => 0))))] := hD
  refine W.widen (k := 5) (n := 15) (by omega) (by omega) ?_
  refine va_putF (D := (dC, dI)) (ci := 0) (v := .ref bW) (ty := .array .long) (C := RX0) (T := TX0) (N := 5) hx hb hts td_fX0 tyX0 tyX0_ok nmX0 hown hK hP hD hS 0 rfl rfl 4 (by decide) (hts (.fieldLink RX0 24 "TileDesk$Shape" "weights" "[J") (td_i2 (List.mem_of_getElem? (i := 1) rfl))) (fun _ h9 => h9) rfl hin rfl (by decide +kernel) rfl rfl (Nat.le_of_ble_eq_true rfl) dX0_init_48 (fun H locs hP hD hS => ?_)
  have hP : va_P (dC, dI) vwCl [(qS, .inr (0, [.ref bX, .ref bY, .ref bR, .ref bL, .ref bW])), (bX, .inl (cJ, 3, .inr (.inl (fun _ => 0)))), (bY, .inl (cJ, 3, .inr (.inl (fun _ => 0)))), (bR, .inl (cJ, 3, .inr (.inl (vp_updL (vp_updL (vp_updL (fun _ => 0) 0 1) 1 1) 2 1)))), (bL, .inl (cJ, 3, .inr (.inl (fun _ => 0)))), (bW, .inl (cJ, 3, .inr (.inl (fun _ => 0))))] H := hP
  have hD : va_D A [(qS, .inr (0, [.ref bX, .ref bY, .ref bR, .ref bL, .ref bW])), (bX, .inl (cJ, 3, .inr (.inl (fun _ => 0)))), (bY, .inl (cJ, 3, .inr (.inl (fun _ => 0)))), (bR, .inl (cJ, 3, .inr (.inl (vp_updL (vp_updL (vp_updL (fun _ => 0) 0 1) 1 1) 2 1)))), (bL, .inl (cJ, 3, .inr (.inl (fun _ => 0)))), (bW, .inl (cJ, 3, .inr (.inl (fun _ => 0))))] := hD
  have hP9 := hP.sub (ws' := [(qS, .inr (0, [.ref bX, .ref bY, .ref bR, .ref bL, .ref bW])), (bX, .inl (cJ, 3, .inr (.inl (fun _ => 0)))), (bY, .inl (cJ, 3, .inr (.inl (fun _ => 0)))), (bR, .inl (cJ, 3, .inr (.inl (vp_updL (vp_updL (vp_updL (fun _ => 0) 0 1) 1 1) 2 1)))), (bL, .inl (cJ, 3, .inr (.inl (fun _ => 0)))), (bW, .inl (cJ, 3, .inr (.inl (fun _ => 0))))]) [0, 1, 2, 3, 4, 5] rfl
  have hD9 := hD.sub (ws' := [(qS, .inr (0, [.ref bX, .ref bY, .ref bR, .ref bL, .ref bW])), (bX, .inl (cJ, 3, .inr (.inl (fun _ => 0)))), (bY, .inl (cJ, 3, .inr (.inl (fun _ => 0)))), (bR, .inl (cJ, 3, .inr (.inl (vp_updL (vp_updL (vp_updL (fun _ => 0) 0 1) 1 1) 2 1)))), (bL, .inl (cJ, 3, .inr (.inl (fun _ => 0)))), (bW, .inl (cJ, 3, .inr (.inl (fun _ => 0))))]) [0, 1, 2, 3, 4, 5] (by decide) rfl
  exact td_rwv (bX, bY, bR, bL, bW) hx hb hr hlocks hK (trivial) hP9 hD9 hS dX0_init_51
set_option maxHeartbeats 4000000 in
set_option maxRecDepth 100000 in
/-- Shape.setCorner -/
theorem td_setCorner (l : Launch) (dC : Nat → ClassId) (dI : Nat → Nat → Nat) (cI cJ cZ : ClassId) (sz : Nat) (qS : Nat) (aX : Nat) (aY : Nat) (aR : Nat) (aL : Nat) (aW : Nat) (vX : Nat → Int64) (vY : Nat → Int64) (vR : Nat → Int64) (vL : Nat → Int64) (vW : Nat → Int64) (k : Nat) (x : Int64) (y : Int64) (r : Int64) (lt : Int64) (hk : k < 3) : Met l yX0_setCorner wsX0_setCorner ({ frames := 0, cells := 0, slots := 0, locals := 0 }) (td_WP (dC, dI) vwCl (td_T cI cJ cZ) td_nl [(qS, .inr (0, [.ref aX, .ref aY, .ref aR, .ref aL, .ref aW])), (aX, .inl (cJ, 3, .inr (.inl vX))), (aY, .inl (cJ, 3, .inr (.inl vY))), (aR, .inl (cJ, 3, .inr (.inl vR))), (aL, .inl (cJ, 3, .inr (.inl vL))), (aW, .inl (cJ, 3, .inr (.inl vW)))] sz [.ref qS, .int (nI k), .long x, .long y, .long r, .long lt]) (va_Qv (S := Unit) (fun u => True) (td_B (dC, dI) vwCl (td_T cI cJ cZ) (va_A [(qS, .inr (0, [.ref aX, .ref aY, .ref aR, .ref aL, .ref aW])), (aX, .inl (cJ, 3, .inr (.inl vX))), (aY, .inl (cJ, 3, .inr (.inl vY))), (aR, .inl (cJ, 3, .inr (.inl vR))), (aL, .inl (cJ, 3, .inr (.inl vL))), (aW, .inl (cJ, 3, .inr (.inl vW)))] sz) (fun (u : Unit) => [(qS, .inr (0, [.ref aX, .ref aY, .ref aR, .ref aL, .ref aW])), (aX, .inl (cJ, 3, .inr (.inl (vp_updL vX k x)))), (aY, .inl (cJ, 3, .inr (.inl (vp_updL vY k y)))), (aR, .inl (cJ, 3, .inr (.inl (vp_updL vR k r)))), (aL, .inl (cJ, 3, .inr (.inl (vp_updL vL k lt)))), (aW, .inl (cJ, 3, .inr (.inl vW)))])) (va_A [(qS, .inr (0, [.ref aX, .ref aY, .ref aR, .ref aL, .ref aW])), (aX, .inl (cJ, 3, .inr (.inl vX))), (aY, .inl (cJ, 3, .inr (.inl vY))), (aR, .inl (cJ, 3, .inr (.inl vR))), (aL, .inl (cJ, 3, .inr (.inl vL))), (aW, .inl (cJ, 3, .inr (.inl vW)))] sz)) 0 0 (va_A [(qS, .inr (0, [.ref aX, .ref aY, .ref aR, .ref aL, .ref aW])), (aX, .inl (cJ, 3, .inr (.inl vX))), (aY, .inl (cJ, 3, .inr (.inl vY))), (aR, .inl (cJ, 3, .inr (.inl vR))), (aL, .inl (cJ, 3, .inr (.inl vL))), (aW, .inl (cJ, 3, .inr (.inl vW)))] sz) := by
  refine Met.ofW (cc := cX0_setCorner) (maxL := 10) (ret := none) (by decide) rfl ?_
  intro p e s m args below meth c s₁ B hml hv
  obtain ⟨rfl, hsz, hP, hK, hZ, hD0⟩ := hv
  have hx := B.exec
  have hb := B.bytes
  have hr := B.returns
  have hts := atoms_spec (ws := wsX0_setCorner) B.pre
  have hown : s.vm.findClass RX0 = some m.cls := findClass_of_methodNamed B.named
  have hlocks := B.notSynchronized
  subst hsz
  have hD := hD0.self (sz := s.heap.size)
  generalize hAe : va_A [(qS, .inr (0, [.ref aX, .ref aY, .ref aR, .ref aL, .ref aW])), (aX, .inl (cJ, 3, .inr (.inl vX))), (aY, .inl (cJ, 3, .inr (.inl vY))), (aR, .inl (cJ, 3, .inr (.inl vR))), (aL, .inl (cJ, 3, .inr (.inl vL))), (aW, .inl (cJ, 3, .inr (.inl vW)))] s.heap.size = A at hD ⊢
  have hA : ∀ q : Nat, s.heap.size ≤ q → A q := fun q h => by rw [← hAe]; exact Or.inr h
  have hS : va_S A s.heap s.heap [] := va_S.rf
  have hP : va_P (dC, dI) vwCl [(qS, .inr (0, [.ref aX, .ref aY, .ref aR, .ref aL, .ref aW])), (aX, .inl (cJ, 3, .inr (.inl vX))), (aY, .inl (cJ, 3, .inr (.inl vY))), (aR, .inl (cJ, 3, .inr (.inl vR))), (aL, .inl (cJ, 3, .inr (.inl vL))), (aW, .inl (cJ, 3, .inr (.inl vW)))] s.heap := hP
  have hl := lv_entry ([.ref qS, .int (nI k), .long x, .long y, .long r, .long lt]) (n := 10) (Nat.le_of_ble_eq_true rfl)
  rw [lg_entry_eq]
  generalize (lg_sl ([.ref qS, .int (nI k), .long x, .long y, .long r, .long lt]) ++ List.replicate (10 - (lg_sl ([.ref qS, .int (nI k), .long x, .long y, .long r, .long lt])).length) Slot.unset).toArray = ls at hl ⊢
  have hl : lv_has ls 10 [(0, .ref qS), (1, .int (nI k)), (2, .long x), (4, .long y), (6, .long r), (8, .long lt)] := hl
  refine lv_aload_n hx hb dX0_setCorner_0 rfl (lv_at hl 0 rfl) ?_
  refine va_get (D := (dC, dI)) (ci := 0) (v := .ref aX) (C := RX0) (T := TX0) (N := 5) hx hb hts td_fX0 hown hK hP 0 rfl rfl 0 (by decide) (hts (.fieldLink RX0 9 "TileDesk$Shape" "xs" "[J") (td_i1 (List.mem_of_getElem? (i := 21) rfl))) (fun _ h9 => h9) rfl dX0_setCorner_1 ?_
  refine lv_iload_n hx hb dX0_setCorner_4 rfl (lv_at hl 1 rfl) ?_
  refine lv_lload_n hx hb dX0_setCorner_5 rfl (lv_at hl 2 rfl) ?_
  refine td_last hx hb hK hP hD hS 1 1 k rfl rfl rfl (by omega) (by decide) dX0_setCorner_6 (fun H locs hP hD hS => ?_)
  have hP : va_P (dC, dI) vwCl [(qS, .inr (0, [.ref aX, .ref aY, .ref aR, .ref aL, .ref aW])), (aX, .inl (cJ, 3, .inr (.inl (vp_updL vX k x)))), (aY, .inl (cJ, 3, .inr (.inl vY))), (aR, .inl (cJ, 3, .inr (.inl vR))), (aL, .inl (cJ, 3, .inr (.inl vL))), (aW, .inl (cJ, 3, .inr (.inl vW)))] H := hP
  have hD : va_D A [(qS, .inr (0, [.ref aX, .ref aY, .ref aR, .ref aL, .ref aW])), (aX, .inl (cJ, 3, .inr (.inl (vp_updL vX k x)))), (aY, .inl (cJ, 3, .inr (.inl vY))), (aR, .inl (cJ, 3, .inr (.inl vR))), (aL, .inl (cJ, 3, .inr (.inl vL))), (aW, .inl (cJ, 3, .inr (.inl vW)))] := hD
  refine lv_aload_n hx hb dX0_setCorner_7 rfl (lv_at hl 0 rfl) ?_
  refine va_get (D := (dC, dI)) (ci := 0) (v := .ref aY) (C := RX0) (T := TX0) (N := 5) hx hb hts td_fX0 hown hK hP 0 rfl rfl 1 (by decide) (hts (.fieldLink RX0 15 "TileDesk$Shape" "ys" "[J") (td_i1 (List.mem_of_getElem? (i := 22) rfl))) (fun _ h9 => h9) rfl dX0_setCorner_8 ?_
  refine lv_iload_n hx hb dX0_setCorner_11 rfl (lv_at hl 1 rfl) ?_
  refine lv_lload hx hb dX0_setCorner_12 (lv_at hl 3 rfl) ?_
  refine td_last hx hb hK hP hD hS 2 1 k rfl rfl rfl (by omega) (by decide) dX0_setCorner_14 (fun H locs hP hD hS => ?_)
  have hP : va_P (dC, dI) vwCl [(qS, .inr (0, [.ref aX, .ref aY, .ref aR, .ref aL, .ref aW])), (aX, .inl (cJ, 3, .inr (.inl (vp_updL vX k x)))), (aY, .inl (cJ, 3, .inr (.inl (vp_updL vY k y)))), (aR, .inl (cJ, 3, .inr (.inl vR))), (aL, .inl (cJ, 3, .inr (.inl vL))), (aW, .inl (cJ, 3, .inr (.inl vW)))] H := hP
  have hD : va_D A [(qS, .inr (0, [.ref aX, .ref aY, .ref aR, .ref aL, .ref aW])), (aX, .inl (cJ, 3, .inr (.inl (vp_updL vX k x)))), (aY, .inl (cJ, 3, .inr (.inl (vp_updL vY k y)))), (aR, .inl (cJ, 3, .inr (.inl vR))), (aL, .inl (cJ, 3, .inr (.inl vL))), (aW, .inl (cJ, 3, .inr (.inl vW)))] := hD
  refine lv_aload_n hx hb dX0_setCorner_15 rfl (lv_at hl 0 rfl) ?_
  refine va_get (D := (dC, dI)) (ci := 0) (v := .ref aR) (C := RX0) (T := TX0) (N := 5) hx hb hts td_fX0 hown hK hP 0 rfl rfl 2 (by decide) (hts (.fieldLink RX0 18 "TileDesk$Shape" "rs" "[J") (td_i1 (List.mem_of_getElem? (i := 23) rfl))) (fun _ h9 => h9) rfl dX0_setCorner_16 ?_
  refine lv_iload_n hx hb dX0_setCorner_19 rfl (lv_at hl 1 rfl) ?_
  refine lv_lload hx hb dX0_setCorner_20 (lv_at hl 4 rfl) ?_
  refine td_last hx hb hK hP hD hS 3 1 k rfl rfl rfl (by omega) (by decide) dX0_setCorner_22 (fun H locs hP hD hS => ?_)
  have hP : va_P (dC, dI) vwCl [(qS, .inr (0, [.ref aX, .ref aY, .ref aR, .ref aL, .ref aW])), (aX, .inl (cJ, 3, .inr (.inl (vp_updL vX k x)))), (aY, .inl (cJ, 3, .inr (.inl (vp_updL vY k y)))), (aR, .inl (cJ, 3, .inr (.inl (vp_updL vR k r)))), (aL, .inl (cJ, 3, .inr (.inl vL))), (aW, .inl (cJ, 3, .inr (.inl vW)))] H := hP
  have hD : va_D A [(qS, .inr (0, [.ref aX, .ref aY, .ref aR, .ref aL, .ref aW])), (aX, .inl (cJ, 3, .inr (.inl (vp_updL vX k x)))), (aY, .inl (cJ, 3, .inr (.inl (vp_updL vY k y)))), (aR, .inl (cJ, 3, .inr (.inl (vp_updL vR k r)))), (aL, .inl (cJ, 3, .inr (.inl vL))), (aW, .inl (cJ, 3, .inr (.inl vW)))] := hD
  refine lv_aload_n hx hb dX0_setCorner_23 rfl (lv_at hl 0 rfl) ?_
  refine va_get (D := (dC, dI)) (ci := 0) (v := .ref aL) (C := RX0) (T := TX0) (N := 5) hx hb hts td_fX0 hown hK hP 0 rfl rfl 3 (by decide) (hts (.fieldLink RX0 21 "TileDesk$Shape" "lights" "[J") (td_i2 (List.mem_of_getElem? (i := 0) rfl))) (fun _ h9 => h9) rfl dX0_setCorner_24 ?_
  refine lv_iload_n hx hb dX0_setCorner_27 rfl (lv_at hl 1 rfl) ?_
  refine lv_lload hx hb dX0_setCorner_28 (lv_at hl 5 rfl) ?_
  refine td_last hx hb hK hP hD hS 4 1 k rfl rfl rfl (by omega) (by decide) dX0_setCorner_30 (fun H locs hP hD hS => ?_)
  have hP : va_P (dC, dI) vwCl [(qS, .inr (0, [.ref aX, .ref aY, .ref aR, .ref aL, .ref aW])), (aX, .inl (cJ, 3, .inr (.inl (vp_updL vX k x)))), (aY, .inl (cJ, 3, .inr (.inl (vp_updL vY k y)))), (aR, .inl (cJ, 3, .inr (.inl (vp_updL vR k r)))), (aL, .inl (cJ, 3, .inr (.inl (vp_updL vL k lt)))), (aW, .inl (cJ, 3, .inr (.inl vW)))] H := hP
  have hD : va_D A [(qS, .inr (0, [.ref aX, .ref aY, .ref aR, .ref aL, .ref aW])), (aX, .inl (cJ, 3, .inr (.inl (vp_updL vX k x)))), (aY, .inl (cJ, 3, .inr (.inl (vp_updL vY k y)))), (aR, .inl (cJ, 3, .inr (.inl (vp_updL vR k r)))), (aL, .inl (cJ, 3, .inr (.inl (vp_updL vL k lt)))), (aW, .inl (cJ, 3, .inr (.inl vW)))] := hD
  have hP9 := hP.sub (ws' := [(qS, .inr (0, [.ref aX, .ref aY, .ref aR, .ref aL, .ref aW])), (aX, .inl (cJ, 3, .inr (.inl (vp_updL vX k x)))), (aY, .inl (cJ, 3, .inr (.inl (vp_updL vY k y)))), (aR, .inl (cJ, 3, .inr (.inl (vp_updL vR k r)))), (aL, .inl (cJ, 3, .inr (.inl (vp_updL vL k lt)))), (aW, .inl (cJ, 3, .inr (.inl vW)))]) [0, 1, 2, 3, 4, 5] rfl
  have hD9 := hD.sub (ws' := [(qS, .inr (0, [.ref aX, .ref aY, .ref aR, .ref aL, .ref aW])), (aX, .inl (cJ, 3, .inr (.inl (vp_updL vX k x)))), (aY, .inl (cJ, 3, .inr (.inl (vp_updL vY k y)))), (aR, .inl (cJ, 3, .inr (.inl (vp_updL vR k r)))), (aL, .inl (cJ, 3, .inr (.inl (vp_updL vL k lt)))), (aW, .inl (cJ, 3, .inr (.inl vW)))]) [0, 1, 2, 3, 4, 5] (by decide) rfl
  exact td_rwv () hx hb hr hlocks hK (trivial) hP9 hD9 hS dX0_setCorner_31
set_option maxHeartbeats 4000000 in
set_option maxRecDepth 100000 in
/-- Shape.packedCorner -/
theorem td_packedCorner (l : Launch) (dC : Nat → ClassId) (dI : Nat → Nat → Nat) (cI cJ cZ : ClassId) (qS : Nat) (aX : Nat) (aY : Nat) (aR : Nat) (aL : Nat) (aW : Nat) (vX : Nat → Int64) (vY : Nat → Int64) (vR : Nat → Int64) (vL : Nat → Int64) (vW : Nat → Int64) (k : Nat) (hk : k < 3) : Met l yX0_packedCorner wsX0_packedCorner ({ frames := 0, cells := 0, slots := 0, locals := 0 }) (td_RP (dC, dI) vwCl (td_T cI cJ cZ) td_nl [(qS, .inr (0, [.ref aX, .ref aY, .ref aR, .ref aL, .ref aW])), (aX, .inl (cJ, 3, .inr (.inl vX))), (aY, .inl (cJ, 3, .inr (.inl vY))), (aR, .inl (cJ, 3, .inr (.inl vR))), (aL, .inl (cJ, 3, .inr (.inl vL))), (aW, .inl (cJ, 3, .inr (.inl vW)))] [.ref qS, .int (nI k)]) (vp_Sl (fun r => r = td_pk (vX k) (vY k) (vR k) (vL k))) 0 0 (fun _ => False) := by
  refine Met.ofW (cc := cX0_packedCorner) (maxL := 4) (ret := (some .long)) (by decide) rfl ?_
  intro p e s m args below meth c s₁ B hml hv
  obtain ⟨rfl, hP, hK, hZ⟩ := hv
  have hx := B.exec
  have hb := B.bytes
  have hr := B.returns
  have hts := atoms_spec (ws := wsX0_packedCorner) B.pre
  have hown : s.vm.findClass RX0 = some m.cls := findClass_of_methodNamed B.named
  have hlocks := B.notSynchronized
  have hP : va_P (dC, dI) vwCl [(qS, .inr (0, [.ref aX, .ref aY, .ref aR, .ref aL, .ref aW])), (aX, .inl (cJ, 3, .inr (.inl vX))), (aY, .inl (cJ, 3, .inr (.inl vY))), (aR, .inl (cJ, 3, .inr (.inl vR))), (aL, .inl (cJ, 3, .inr (.inl vL))), (aW, .inl (cJ, 3, .inr (.inl vW)))] s.heap := hP
  have hl := lv_entry ([.ref qS, .int (nI k)]) (n := 4) (Nat.le_of_ble_eq_true rfl)
  rw [lg_entry_eq]
  generalize (lg_sl ([.ref qS, .int (nI k)]) ++ List.replicate (4 - (lg_sl ([.ref qS, .int (nI k)])).length) Slot.unset).toArray = ls at hl ⊢
  have hl : lv_has ls 4 [(0, .ref qS), (1, .int (nI k))] := hl
  refine lv_aload_n hx hb dX0_packedCorner_0 rfl (lv_at hl 0 rfl) ?_
  refine va_get (D := (dC, dI)) (ci := 0) (v := .ref aX) (C := RX0) (T := TX0) (N := 5) hx hb hts td_fX0 hown hK hP 0 rfl rfl 0 (by decide) (hts (.fieldLink RX0 9 "TileDesk$Shape" "xs" "[J") (td_i1 (List.mem_of_getElem? (i := 21) rfl))) (fun _ h9 => h9) rfl dX0_packedCorner_1 ?_
  refine lv_iload_n hx hb dX0_packedCorner_4 rfl (lv_at hl 1 rfl) ?_
  refine td_lald hx hb hK hP 1 1 k rfl rfl rfl (by omega) (by decide) dX0_packedCorner_5 ?_
  refine lv_ldc2 (own := RX0) (v := 4096) hx hb hown (hts (.constantLong RX0 27 4096) (td_i5 (List.mem_of_getElem? (i := 8) rfl))) dX0_packedCorner_6 ?_
  refine lv_ladd hx hb dX0_packedCorner_9 ?_
  refine lv_ldc2 (own := RX0) (v := 8193) hx hb hown (hts (.constantLong RX0 29 8193) (td_i5 (List.mem_of_getElem? (i := 9) rfl))) dX0_packedCorner_10 ?_
  refine lv_lmul hx hb dX0_packedCorner_13 ?_
  refine lv_aload_n hx hb dX0_packedCorner_14 rfl (lv_at hl 0 rfl) ?_
  refine va_get (D := (dC, dI)) (ci := 0) (v := .ref aY) (C := RX0) (T := TX0) (N := 5) hx hb hts td_fX0 hown hK hP 0 rfl rfl 1 (by decide) (hts (.fieldLink RX0 15 "TileDesk$Shape" "ys" "[J") (td_i1 (List.mem_of_getElem? (i := 22) rfl))) (fun _ h9 => h9) rfl dX0_packedCorner_15 ?_
  refine lv_iload_n hx hb dX0_packedCorner_18 rfl (lv_at hl 1 rfl) ?_
  refine td_lald hx hb hK hP 2 1 k rfl rfl rfl (by omega) (by decide) dX0_packedCorner_19 ?_
  refine lv_ladd hx hb dX0_packedCorner_20 ?_
  refine lv_ldc2 (own := RX0) (v := 4096) hx hb hown (hts (.constantLong RX0 27 4096) (td_i5 (List.mem_of_getElem? (i := 8) rfl))) dX0_packedCorner_21 ?_
  refine lv_ladd hx hb dX0_packedCorner_24 ?_
  refine lv_lstore_n (lv' := [(2, .long (((((vX k) + 4096) * 8193) + (vY k)) + 4096)), (0, .ref qS), (1, .int (nI k))]) hx hb dX0_packedCorner_25 rfl hl (by decide) rfl (fun ls hl => ?_)
  refine lv_lload_n hx hb dX0_packedCorner_26 rfl (lv_at hl 0 rfl) ?_
  refine lv_ldc2 (own := RX0) (v := 1048576) hx hb hown (hts (.constantLong RX0 31 1048576) (td_i5 (List.mem_of_getElem? (i := 10) rfl))) dX0_packedCorner_27 ?_
  refine lv_lmul hx hb dX0_packedCorner_30 ?_
  refine lv_aload_n hx hb dX0_packedCorner_31 rfl (lv_at hl 1 rfl) ?_
  refine va_get (D := (dC, dI)) (ci := 0) (v := .ref aR) (C := RX0) (T := TX0) (N := 5) hx hb hts td_fX0 hown hK hP 0 rfl rfl 2 (by decide) (hts (.fieldLink RX0 18 "TileDesk$Shape" "rs" "[J") (td_i1 (List.mem_of_getElem? (i := 23) rfl))) (fun _ h9 => h9) rfl dX0_packedCorner_32 ?_
  refine lv_iload_n hx hb dX0_packedCorner_35 rfl (lv_at hl 2 rfl) ?_
  refine td_lald hx hb hK hP 3 1 k rfl rfl rfl (by omega) (by decide) dX0_packedCorner_36 ?_
  refine lv_ladd hx hb dX0_packedCorner_37 ?_
  refine lv_lconst (v := 1) hx hb dX0_packedCorner_38 (by decide) ?_
  refine lv_lsub hx hb dX0_packedCorner_39 ?_
  refine lv_ldc2 (own := RX0) (v := 65537) hx hb hown (hts (.constantLong RX0 33 65537) (td_i5 (List.mem_of_getElem? (i := 11) rfl))) dX0_packedCorner_40 ?_
  refine lv_lmul hx hb dX0_packedCorner_43 ?_
  refine lv_aload_n hx hb dX0_packedCorner_44 rfl (lv_at hl 1 rfl) ?_
  refine va_get (D := (dC, dI)) (ci := 0) (v := .ref aL) (C := RX0) (T := TX0) (N := 5) hx hb hts td_fX0 hown hK hP 0 rfl rfl 3 (by decide) (hts (.fieldLink RX0 21 "TileDesk$Shape" "lights" "[J") (td_i2 (List.mem_of_getElem? (i := 0) rfl))) (fun _ h9 => h9) rfl dX0_packedCorner_45 ?_
  refine lv_iload_n hx hb dX0_packedCorner_48 rfl (lv_at hl 2 rfl) ?_
  refine td_lald hx hb hK hP 4 1 k rfl rfl rfl (by omega) (by decide) dX0_packedCorner_49 ?_
  refine lv_ladd hx hb dX0_packedCorner_50 ?_
  exact td_rrl hx hb hr hlocks (rfl) dX0_packedCorner_51
set_option maxHeartbeats 4000000 in
set_option maxRecDepth 100000 in
/-- Shape.unpackCorner -/
theorem td_unpackCorner (l : Launch) (dC : Nat → ClassId) (dI : Nat → Nat → Nat) (cI cJ cZ : ClassId) (sz : Nat) (qS : Nat) (aX : Nat) (aY : Nat) (aR : Nat) (aL : Nat) (aW : Nat) (vX : Nat → Int64) (vY : Nat → Int64) (vR : Nat → Int64) (vL : Nat → Int64) (vW : Nat → Int64) (k : Nat) (pk : Int64) (hk : k < 3) : Met l yX0_unpackCorner wsX0_unpackCorner ({ frames := 1, cells := 0, slots := 0, locals := 29 }) (td_WP (dC, dI) vwCl (td_T cI cJ cZ) td_nl [(qS, .inr (0, [.ref aX, .ref aY, .ref aR, .ref aL, .ref aW])), (aX, .inl (cJ, 3, .inr (.inl vX))), (aY, .inl (cJ, 3, .inr (.inl vY))), (aR, .inl (cJ, 3, .inr (.inl vR))), (aL, .inl (cJ, 3, .inr (.inl vL))), (aW, .inl (cJ, 3, .inr (.inl vW)))] sz [.ref qS, .int (nI k), .long pk]) (va_Qv (S := Unit) (fun u => True) (td_B (dC, dI) vwCl (td_T cI cJ cZ) (va_A [(qS, .inr (0, [.ref aX, .ref aY, .ref aR, .ref aL, .ref aW])), (aX, .inl (cJ, 3, .inr (.inl vX))), (aY, .inl (cJ, 3, .inr (.inl vY))), (aR, .inl (cJ, 3, .inr (.inl vR))), (aL, .inl (cJ, 3, .inr (.inl vL))), (aW, .inl (cJ, 3, .inr (.inl vW)))] sz) (fun (u : Unit) => [(qS, .inr (0, [.ref aX, .ref aY, .ref aR, .ref aL, .ref aW])), (aX, .inl (cJ, 3, .inr (.inl (vp_updL vX k (td_ux pk))))), (aY, .inl (cJ, 3, .inr (.inl (vp_updL vY k (td_uy pk))))), (aR, .inl (cJ, 3, .inr (.inl (vp_updL vR k (td_ur pk))))), (aL, .inl (cJ, 3, .inr (.inl (vp_updL vL k (td_ul pk))))), (aW, .inl (cJ, 3, .inr (.inl vW)))])) (va_A [(qS, .inr (0, [.ref aX, .ref aY, .ref aR, .ref aL, .ref aW])), (aX, .inl (cJ, 3, .inr (.inl vX))), (aY, .inl (cJ, 3, .inr (.inl vY))), (aR, .inl (cJ, 3, .inr (.inl vR))), (aL, .inl (cJ, 3, .inr (.inl vL))), (aW, .inl (cJ, 3, .inr (.inl vW)))] sz)) 0 0 (va_A [(qS, .inr (0, [.ref aX, .ref aY, .ref aR, .ref aL, .ref aW])), (aX, .inl (cJ, 3, .inr (.inl vX))), (aY, .inl (cJ, 3, .inr (.inl vY))), (aR, .inl (cJ, 3, .inr (.inl vR))), (aL, .inl (cJ, 3, .inr (.inl vL))), (aW, .inl (cJ, 3, .inr (.inl vW)))] sz) := by
  refine Met.ofW (cc := cX0_unpackCorner) (maxL := 8) (ret := none) (by decide) rfl ?_
  intro p e s m args below meth c s₁ B hml hv
  obtain ⟨rfl, hsz, hP, hK, hZ, hD0⟩ := hv
  have hx := B.exec
  have hb := B.bytes
  have hr := B.returns
  have hts := atoms_spec (ws := wsX0_unpackCorner) B.pre
  have hown : s.vm.findClass RX0 = some m.cls := findClass_of_methodNamed B.named
  have hlocks := B.notSynchronized
  subst hsz
  have hD := hD0.self (sz := s.heap.size)
  generalize hAe : va_A [(qS, .inr (0, [.ref aX, .ref aY, .ref aR, .ref aL, .ref aW])), (aX, .inl (cJ, 3, .inr (.inl vX))), (aY, .inl (cJ, 3, .inr (.inl vY))), (aR, .inl (cJ, 3, .inr (.inl vR))), (aL, .inl (cJ, 3, .inr (.inl vL))), (aW, .inl (cJ, 3, .inr (.inl vW)))] s.heap.size = A at hD ⊢
  have hA : ∀ q : Nat, s.heap.size ≤ q → A q := fun q h => by rw [← hAe]; exact Or.inr h
  have hS : va_S A s.heap s.heap [] := va_S.rf
  have hP : va_P (dC, dI) vwCl [(qS, .inr (0, [.ref aX, .ref aY, .ref aR, .ref aL, .ref aW])), (aX, .inl (cJ, 3, .inr (.inl vX))), (aY, .inl (cJ, 3, .inr (.inl vY))), (aR, .inl (cJ, 3, .inr (.inl vR))), (aL, .inl (cJ, 3, .inr (.inl vL))), (aW, .inl (cJ, 3, .inr (.inl vW)))] s.heap := hP
  have hl := lv_entry ([.ref qS, .int (nI k), .long pk]) (n := 8) (Nat.le_of_ble_eq_true rfl)
  rw [lg_entry_eq]
  generalize (lg_sl ([.ref qS, .int (nI k), .long pk]) ++ List.replicate (8 - (lg_sl ([.ref qS, .int (nI k), .long pk])).length) Slot.unset).toArray = ls at hl ⊢
  have hl : lv_has ls 8 [(0, .ref qS), (1, .int (nI k)), (2, .long pk)] := hl
  refine lv_lload_n hx hb dX0_unpackCorner_0 rfl (lv_at hl 2 rfl) ?_
  refine lv_ldc2 (own := RX0) (v := 65537) hx hb hown (hts (.constantLong RX0 33 65537) (td_i5 (List.mem_of_getElem? (i := 11) rfl))) dX0_unpackCorner_1 ?_
  refine lv_ldiv hx hb dX0_unpackCorner_4 (by decide) ?_
  refine lv_lstore (lv' := [(4, .long (pk / 65537)), (0, .ref qS), (1, .int (nI k)), (2, .long pk)]) hx hb dX0_unpackCorner_5 hl (by decide) rfl (fun ls hl => ?_)
  refine lv_lload hx hb dX0_unpackCorner_7 (lv_at hl 0 rfl) ?_
  refine lv_ldc2 (own := RX0) (v := 1048576) hx hb hown (hts (.constantLong RX0 31 1048576) (td_i5 (List.mem_of_getElem? (i := 10) rfl))) dX0_unpackCorner_9 ?_
  refine lv_ldiv hx hb dX0_unpackCorner_12 (by decide) ?_
  refine lv_lstore (lv' := [(6, .long ((pk / 65537) / 1048576)), (4, .long (pk / 65537)), (0, .ref qS), (1, .int (nI k)), (2, .long pk)]) hx hb dX0_unpackCorner_13 hl (by decide) rfl (fun ls hl => ?_)
  refine lv_aload_n hx hb dX0_unpackCorner_15 rfl (lv_at hl 2 rfl) ?_
  refine lv_iload_n hx hb dX0_unpackCorner_16 rfl (lv_at hl 3 rfl) ?_
  refine lv_lload hx hb dX0_unpackCorner_17 (lv_at hl 0 rfl) ?_
  refine lv_ldc2 (own := RX0) (v := 8193) hx hb hown (hts (.constantLong RX0 29 8193) (td_i5 (List.mem_of_getElem? (i := 9) rfl))) dX0_unpackCorner_19 ?_
  refine lv_ldiv hx hb dX0_unpackCorner_22 (by decide) ?_
  refine lv_ldc2 (own := RX0) (v := 4096) hx hb hown (hts (.constantLong RX0 27 4096) (td_i5 (List.mem_of_getElem? (i := 8) rfl))) dX0_unpackCorner_23 ?_
  refine lv_lsub hx hb dX0_unpackCorner_26 ?_
  refine lv_lload hx hb dX0_unpackCorner_27 (lv_at hl 0 rfl) ?_
  refine lv_ldc2 (own := RX0) (v := 8193) hx hb hown (hts (.constantLong RX0 29 8193) (td_i5 (List.mem_of_getElem? (i := 9) rfl))) dX0_unpackCorner_29 ?_
  refine lv_lrem hx hb dX0_unpackCorner_32 (by decide) ?_
  refine lv_ldc2 (own := RX0) (v := 4096) hx hb hown (hts (.constantLong RX0 27 4096) (td_i5 (List.mem_of_getElem? (i := 8) rfl))) dX0_unpackCorner_33 ?_
  refine lv_lsub hx hb dX0_unpackCorner_36 ?_
  refine lv_lload hx hb dX0_unpackCorner_37 (lv_at hl 1 rfl) ?_
  refine lv_ldc2 (own := RX0) (v := 1048576) hx hb hown (hts (.constantLong RX0 31 1048576) (td_i5 (List.mem_of_getElem? (i := 10) rfl))) dX0_unpackCorner_39 ?_
  refine lv_lrem hx hb dX0_unpackCorner_42 (by decide) ?_
  refine lv_lconst (v := 1) hx hb dX0_unpackCorner_43 (by decide) ?_
  refine lv_ladd hx hb dX0_unpackCorner_44 ?_
  refine lv_lload_n hx hb dX0_unpackCorner_45 rfl (lv_at hl 4 rfl) ?_
  refine lv_ldc2 (own := RX0) (v := 65537) hx hb hown (hts (.constantLong RX0 33 65537) (td_i5 (List.mem_of_getElem? (i := 11) rfl))) dX0_unpackCorner_46 ?_
  refine lv_lrem hx hb dX0_unpackCorner_49 (by decide) ?_
  refine td_cwv (wr := []) (va_runV (As := [.int (nI k), .long ((((pk / 65537) / 1048576) / 8193) - 4096), .long ((((pk / 65537) / 1048576) - ((pk / 65537) / 1048576) / 8193 * 8193) - 4096), .long (((pk / 65537) - (pk / 65537) / 1048576 * 1048576) + 1), .long (pk - pk / 65537 * 65537)]) (rest := []) ⟨hx, hb, hml, hown, hts⟩ (td_setCorner l dC dI cI cJ cZ s.heap.size qS aX aY aR aL aW vX vY vR vL vW k ((((pk / 65537) / 1048576) / 8193) - 4096) ((((pk / 65537) / 1048576) - ((pk / 65537) / 1048576) / 8193 * 8193) - 4096) (((pk / 65537) - (pk / 65537) / 1048576 * 1048576) + 1) (pk - pk / 65537 * 65537) (by omega)) (cwV 5 hts (td_gV (td_i8 (List.mem_of_getElem? (i := 2) rfl)) (td_i4 (List.mem_of_getElem? (i := 9) rfl)) (td_i4 (List.mem_of_getElem? (i := 10) rfl)) (td_i1 (List.mem_of_getElem? (i := 2) rfl)) (td_i4 (List.mem_of_getElem? (i := 11) rfl))) rfl rfl rfl (by decide +kernel) ⟨(Nat.le_of_ble_eq_true rfl), (Nat.le_of_ble_eq_true rfl)⟩) (td_pWV hK hZ hP hD [0, 1, 2, 3, 4, 5] (by decide) rfl (va_recv hK hP (ci := 0) (q0 := 0) rfl rfl)) rfl rfl hl.1 rfl (lv_room (Nat.le_of_ble_eq_true rfl)) dX0_unpackCorner_50 ⟨Nat.zero_le _, Nat.zero_le _⟩) hP hD hS hA [0, 1, 2, 3, 4, 5] [] rfl rfl (by decide) (by decide) (fun u H locs w50_1 hP hD hS => ?_)
  try dsimp only at w50_1
  have hP : va_P (dC, dI) vwCl [(qS, .inr (0, [.ref aX, .ref aY, .ref aR, .ref aL, .ref aW])), (aX, .inl (cJ, 3, .inr (.inl (vp_updL vX k ((((pk / 65537) / 1048576) / 8193) - 4096))))), (aY, .inl (cJ, 3, .inr (.inl (vp_updL vY k ((((pk / 65537) / 1048576) - ((pk / 65537) / 1048576) / 8193 * 8193) - 4096))))), (aR, .inl (cJ, 3, .inr (.inl (vp_updL vR k (((pk / 65537) - (pk / 65537) / 1048576 * 1048576) + 1))))), (aL, .inl (cJ, 3, .inr (.inl (vp_updL vL k (pk - pk / 65537 * 65537))))), (aW, .inl (cJ, 3, .inr (.inl vW)))] H := hP
  have hD : va_D A [(qS, .inr (0, [.ref aX, .ref aY, .ref aR, .ref aL, .ref aW])), (aX, .inl (cJ, 3, .inr (.inl (vp_updL vX k ((((pk / 65537) / 1048576) / 8193) - 4096))))), (aY, .inl (cJ, 3, .inr (.inl (vp_updL vY k ((((pk / 65537) / 1048576) - ((pk / 65537) / 1048576) / 8193 * 8193) - 4096))))), (aR, .inl (cJ, 3, .inr (.inl (vp_updL vR k (((pk / 65537) - (pk / 65537) / 1048576 * 1048576) + 1))))), (aL, .inl (cJ, 3, .inr (.inl (vp_updL vL k (pk - pk / 65537 * 65537))))), (aW, .inl (cJ, 3, .inr (.inl vW)))] := hD
  have hP9 := hP.sub (ws' := [(qS, .inr (0, [.ref aX, .ref aY, .ref aR, .ref aL, .ref aW])), (aX, .inl (cJ, 3, .inr (.inl (vp_updL vX k (td_ux pk))))), (aY, .inl (cJ, 3, .inr (.inl (vp_updL vY k (td_uy pk))))), (aR, .inl (cJ, 3, .inr (.inl (vp_updL vR k (td_ur pk))))), (aL, .inl (cJ, 3, .inr (.inl (vp_updL vL k (td_ul pk))))), (aW, .inl (cJ, 3, .inr (.inl vW)))]) [0, 1, 2, 3, 4, 5] rfl
  have hD9 := hD.sub (ws' := [(qS, .inr (0, [.ref aX, .ref aY, .ref aR, .ref aL, .ref aW])), (aX, .inl (cJ, 3, .inr (.inl (vp_updL vX k (td_ux pk))))), (aY, .inl (cJ, 3, .inr (.inl (vp_updL vY k (td_uy pk))))), (aR, .inl (cJ, 3, .inr (.inl (vp_updL vR k (td_ur pk))))), (aL, .inl (cJ, 3, .inr (.inl (vp_updL vL k (td_ul pk))))), (aW, .inl (cJ, 3, .inr (.inl vW)))]) [0, 1, 2, 3, 4, 5] (by decide) rfl
  exact td_rwv () hx hb hr hlocks hK (trivial) hP9 hD9 hS dX0_unpackCorner_53
set_option maxHeartbeats 4000000 in
set_option maxRecDepth 100000 in
/-- Shape.area -/
theorem td_areaC (l : Launch) (dC : Nat → ClassId) (dI : Nat → Nat → Nat) (cI cJ cZ : ClassId) (qS : Nat) (aX : Nat) (aY : Nat) (aR : Nat) (aL : Nat) (aW : Nat) (vX : Nat → Int64) (vY : Nat → Int64) (vR : Nat → Int64) (vL : Nat → Int64) (vW : Nat → Int64) : Met l yX0_area wsX0_area ({ frames := 0, cells := 0, slots := 0, locals := 0 }) (td_RP (dC, dI) vwCl (td_T cI cJ cZ) td_nl [(qS, .inr (0, [.ref aX, .ref aY, .ref aR, .ref aL, .ref aW])), (aX, .inl (cJ, 3, .inr (.inl vX))), (aY, .inl (cJ, 3, .inr (.inl vY))), (aR, .inl (cJ, 3, .inr (.inl vR))), (aL, .inl (cJ, 3, .inr (.inl vL))), (aW, .inl (cJ, 3, .inr (.inl vW)))] [.ref qS]) (vp_Sl (fun r => r = td_ca vX vY)) 0 0 (fun _ => False) := by
  refine Met.ofW (cc := cX0_area) (maxL := 1) (ret := (some .long)) (by decide) rfl ?_
  intro p e s m args below meth c s₁ B hml hv
  obtain ⟨rfl, hP, hK, hZ⟩ := hv
  have hx := B.exec
  have hb := B.bytes
  have hr := B.returns
  have hts := atoms_spec (ws := wsX0_area) B.pre
  have hown : s.vm.findClass RX0 = some m.cls := findClass_of_methodNamed B.named
  have hlocks := B.notSynchronized
  have hP : va_P (dC, dI) vwCl [(qS, .inr (0, [.ref aX, .ref aY, .ref aR, .ref aL, .ref aW])), (aX, .inl (cJ, 3, .inr (.inl vX))), (aY, .inl (cJ, 3, .inr (.inl vY))), (aR, .inl (cJ, 3, .inr (.inl vR))), (aL, .inl (cJ, 3, .inr (.inl vL))), (aW, .inl (cJ, 3, .inr (.inl vW)))] s.heap := hP
  have hl := lv_entry ([.ref qS]) (n := 1) (Nat.le_of_ble_eq_true rfl)
  rw [lg_entry_eq]
  generalize (lg_sl ([.ref qS]) ++ List.replicate (1 - (lg_sl ([.ref qS])).length) Slot.unset).toArray = ls at hl ⊢
  have hl : lv_has ls 1 [(0, .ref qS)] := hl
  refine lv_aload_n hx hb dX0_area_0 rfl (lv_at hl 0 rfl) ?_
  refine va_get (D := (dC, dI)) (ci := 0) (v := .ref aX) (C := RX0) (T := TX0) (N := 5) hx hb hts td_fX0 hown hK hP 0 rfl rfl 0 (by decide) (hts (.fieldLink RX0 9 "TileDesk$Shape" "xs" "[J") (td_i1 (List.mem_of_getElem? (i := 21) rfl))) (fun _ h9 => h9) rfl dX0_area_1 ?_
  refine lv_iconst (v := 1) hx hb dX0_area_4 (by decide) ?_
  refine td_lald hx hb hK hP 1 1 1 rfl rfl rfl (by decide) (by decide) dX0_area_5 ?_
  refine lv_aload_n hx hb dX0_area_6 rfl (lv_at hl 0 rfl) ?_
  refine va_get (D := (dC, dI)) (ci := 0) (v := .ref aX) (C := RX0) (T := TX0) (N := 5) hx hb hts td_fX0 hown hK hP 0 rfl rfl 0 (by decide) (hts (.fieldLink RX0 9 "TileDesk$Shape" "xs" "[J") (td_i1 (List.mem_of_getElem? (i := 21) rfl))) (fun _ h9 => h9) rfl dX0_area_7 ?_
  refine lv_iconst (v := 0) hx hb dX0_area_10 (by decide) ?_
  refine td_lald hx hb hK hP 1 1 0 rfl rfl rfl (by decide) (by decide) dX0_area_11 ?_
  refine lv_lsub hx hb dX0_area_12 ?_
  refine lv_aload_n hx hb dX0_area_13 rfl (lv_at hl 0 rfl) ?_
  refine va_get (D := (dC, dI)) (ci := 0) (v := .ref aY) (C := RX0) (T := TX0) (N := 5) hx hb hts td_fX0 hown hK hP 0 rfl rfl 1 (by decide) (hts (.fieldLink RX0 15 "TileDesk$Shape" "ys" "[J") (td_i1 (List.mem_of_getElem? (i := 22) rfl))) (fun _ h9 => h9) rfl dX0_area_14 ?_
  refine lv_iconst (v := 2) hx hb dX0_area_17 (by decide) ?_
  refine td_lald hx hb hK hP 2 1 2 rfl rfl rfl (by decide) (by decide) dX0_area_18 ?_
  refine lv_aload_n hx hb dX0_area_19 rfl (lv_at hl 0 rfl) ?_
  refine va_get (D := (dC, dI)) (ci := 0) (v := .ref aY) (C := RX0) (T := TX0) (N := 5) hx hb hts td_fX0 hown hK hP 0 rfl rfl 1 (by decide) (hts (.fieldLink RX0 15 "TileDesk$Shape" "ys" "[J") (td_i1 (List.mem_of_getElem? (i := 22) rfl))) (fun _ h9 => h9) rfl dX0_area_20 ?_
  refine lv_iconst (v := 0) hx hb dX0_area_23 (by decide) ?_
  refine td_lald hx hb hK hP 2 1 0 rfl rfl rfl (by decide) (by decide) dX0_area_24 ?_
  refine lv_lsub hx hb dX0_area_25 ?_
  refine lv_lmul hx hb dX0_area_26 ?_
  refine lv_aload_n hx hb dX0_area_27 rfl (lv_at hl 0 rfl) ?_
  refine va_get (D := (dC, dI)) (ci := 0) (v := .ref aX) (C := RX0) (T := TX0) (N := 5) hx hb hts td_fX0 hown hK hP 0 rfl rfl 0 (by decide) (hts (.fieldLink RX0 9 "TileDesk$Shape" "xs" "[J") (td_i1 (List.mem_of_getElem? (i := 21) rfl))) (fun _ h9 => h9) rfl dX0_area_28 ?_
  refine lv_iconst (v := 2) hx hb dX0_area_31 (by decide) ?_
  refine td_lald hx hb hK hP 1 1 2 rfl rfl rfl (by decide) (by decide) dX0_area_32 ?_
  refine lv_aload_n hx hb dX0_area_33 rfl (lv_at hl 0 rfl) ?_
  refine va_get (D := (dC, dI)) (ci := 0) (v := .ref aX) (C := RX0) (T := TX0) (N := 5) hx hb hts td_fX0 hown hK hP 0 rfl rfl 0 (by decide) (hts (.fieldLink RX0 9 "TileDesk$Shape" "xs" "[J") (td_i1 (List.mem_of_getElem? (i := 21) rfl))) (fun _ h9 => h9) rfl dX0_area_34 ?_
  refine lv_iconst (v := 0) hx hb dX0_area_37 (by decide) ?_
  refine td_lald hx hb hK hP 1 1 0 rfl rfl rfl (by decide) (by decide) dX0_area_38 ?_
  refine lv_lsub hx hb dX0_area_39 ?_
  refine lv_aload_n hx hb dX0_area_40 rfl (lv_at hl 0 rfl) ?_
  refine va_get (D := (dC, dI)) (ci := 0) (v := .ref aY) (C := RX0) (T := TX0) (N := 5) hx hb hts td_fX0 hown hK hP 0 rfl rfl 1 (by decide) (hts (.fieldLink RX0 15 "TileDesk$Shape" "ys" "[J") (td_i1 (List.mem_of_getElem? (i := 22) rfl))) (fun _ h9 => h9) rfl dX0_area_41 ?_
  refine lv_iconst (v := 1) hx hb dX0_area_44 (by decide) ?_
  refine td_lald hx hb hK hP 2 1 1 rfl rfl rfl (by decide) (by decide) dX0_area_45 ?_
  refine lv_aload_n hx hb dX0_area_46 rfl (lv_at hl 0 rfl) ?_
  refine va_get (D := (dC, dI)) (ci := 0) (v := .ref aY) (C := RX0) (T := TX0) (N := 5) hx hb hts td_fX0 hown hK hP 0 rfl rfl 1 (by decide) (hts (.fieldLink RX0 15 "TileDesk$Shape" "ys" "[J") (td_i1 (List.mem_of_getElem? (i := 22) rfl))) (fun _ h9 => h9) rfl dX0_area_47 ?_
  refine lv_iconst (v := 0) hx hb dX0_area_50 (by decide) ?_
  refine td_lald hx hb hK hP 2 1 0 rfl rfl rfl (by decide) (by decide) dX0_area_51 ?_
  refine lv_lsub hx hb dX0_area_52 ?_
  refine lv_lmul hx hb dX0_area_53 ?_
  refine lv_lsub hx hb dX0_area_54 ?_
  exact td_rrl hx hb hr hlocks (rfl) dX0_area_55
set_option maxHeartbeats 4000000 in
set_option maxRecDepth 100000 in
/-- Shape.ownsItsEdge -/
theorem td_owns (l : Launch) (dC : Nat → ClassId) (dI : Nat → Nat → Nat) (cI cJ cZ : ClassId) (qS : Nat) (aX : Nat) (aY : Nat) (aR : Nat) (aL : Nat) (aW : Nat) (vX : Nat → Int64) (vY : Nat → Int64) (vR : Nat → Int64) (vL : Nat → Int64) (vW : Nat → Int64) (ka : Nat) (kb : Nat) (ha : ka < 3) (hb3 : kb < 3) : Met l yX0_ownsItsEdge wsX0_ownsItsEdge ({ frames := 0, cells := 0, slots := 0, locals := 0 }) (td_RP (dC, dI) vwCl (td_T cI cJ cZ) td_nl [(qS, .inr (0, [.ref aX, .ref aY, .ref aR, .ref aL, .ref aW])), (aX, .inl (cJ, 3, .inr (.inl vX))), (aY, .inl (cJ, 3, .inr (.inl vY))), (aR, .inl (cJ, 3, .inr (.inl vR))), (aL, .inl (cJ, 3, .inr (.inl vL))), (aW, .inl (cJ, 3, .inr (.inl vW)))] [.ref qS, .int (nI ka), .int (nI kb)]) (vp_Si (fun r => r = td_bz (vY kb < vY ka ∨ vY kb = vY ka ∧ vX ka < vX kb))) 0 0 (fun _ => False) := by
  refine Met.ofW (cc := cX0_ownsItsEdge) (maxL := 3) (ret := (some .boolean)) (by decide) rfl ?_
  intro p e s m args below meth c s₁ B hml hv
  obtain ⟨rfl, hP, hK, hZ⟩ := hv
  have hx := B.exec
  have hb := B.bytes
  have hr := B.returns
  have hts := atoms_spec (ws := wsX0_ownsItsEdge) B.pre
  have hown : s.vm.findClass RX0 = some m.cls := findClass_of_methodNamed B.named
  have hlocks := B.notSynchronized
  have hP : va_P (dC, dI) vwCl [(qS, .inr (0, [.ref aX, .ref aY, .ref aR, .ref aL, .ref aW])), (aX, .inl (cJ, 3, .inr (.inl vX))), (aY, .inl (cJ, 3, .inr (.inl vY))), (aR, .inl (cJ, 3, .inr (.inl vR))), (aL, .inl (cJ, 3, .inr (.inl vL))), (aW, .inl (cJ, 3, .inr (.inl vW)))] s.heap := hP
  have hl := lv_entry ([.ref qS, .int (nI ka), .int (nI kb)]) (n := 3) (Nat.le_of_ble_eq_true rfl)
  rw [lg_entry_eq]
  generalize (lg_sl ([.ref qS, .int (nI ka), .int (nI kb)]) ++ List.replicate (3 - (lg_sl ([.ref qS, .int (nI ka), .int (nI kb)])).length) Slot.unset).toArray = ls at hl ⊢
  have hl : lv_has ls 3 [(0, .ref qS), (1, .int (nI ka)), (2, .int (nI kb))] := hl
  refine lv_aload_n hx hb dX0_ownsItsEdge_0 rfl (lv_at hl 0 rfl) ?_
  refine va_get (D := (dC, dI)) (ci := 0) (v := .ref aY) (C := RX0) (T := TX0) (N := 5) hx hb hts td_fX0 hown hK hP 0 rfl rfl 1 (by decide) (hts (.fieldLink RX0 15 "TileDesk$Shape" "ys" "[J") (td_i1 (List.mem_of_getElem? (i := 22) rfl))) (fun _ h9 => h9) rfl dX0_ownsItsEdge_1 ?_
  refine lv_iload_n hx hb dX0_ownsItsEdge_4 rfl (lv_at hl 2 rfl) ?_
  refine td_lald hx hb hK hP 2 1 kb rfl rfl rfl (by omega) (by decide) dX0_ownsItsEdge_5 ?_
  refine lv_aload_n hx hb dX0_ownsItsEdge_6 rfl (lv_at hl 0 rfl) ?_
  refine va_get (D := (dC, dI)) (ci := 0) (v := .ref aY) (C := RX0) (T := TX0) (N := 5) hx hb hts td_fX0 hown hK hP 0 rfl rfl 1 (by decide) (hts (.fieldLink RX0 15 "TileDesk$Shape" "ys" "[J") (td_i1 (List.mem_of_getElem? (i := 22) rfl))) (fun _ h9 => h9) rfl dX0_ownsItsEdge_7 ?_
  refine lv_iload_n hx hb dX0_ownsItsEdge_10 rfl (lv_at hl 1 rfl) ?_
  refine td_lald hx hb hK hP 2 1 ka rfl rfl rfl (by omega) (by decide) dX0_ownsItsEdge_11 ?_
  refine W.lcmp hx hb dX0_ownsItsEdge_12 ?_
  refine td_llt (tgt := 48) hx hb dX0_ownsItsEdge_13 (by decide) (fun c13_1 => ?_) (fun c13_1 => ?_)
  · refine lv_iconst (v := 1) hx hb dX0_ownsItsEdge_48 (by decide) ?_
    refine lv_goto (tgt := 53) hx hb dX0_ownsItsEdge_49 (by decide) ?_
    exact td_rri hx hb hr rfl hlocks (by rw [td_bz1 (by first | exact Or.inl (by assumption) | exact Or.inr ⟨by assumption, Int64.not_le.mp (by assumption)⟩)]) dX0_ownsItsEdge_53
  · refine lv_aload_n hx hb dX0_ownsItsEdge_16 rfl (lv_at hl 0 rfl) ?_
    refine va_get (D := (dC, dI)) (ci := 0) (v := .ref aY) (C := RX0) (T := TX0) (N := 5) hx hb hts td_fX0 hown hK hP 0 rfl rfl 1 (by decide) (hts (.fieldLink RX0 15 "TileDesk$Shape" "ys" "[J") (td_i1 (List.mem_of_getElem? (i := 22) rfl))) (fun _ h9 => h9) rfl dX0_ownsItsEdge_17 ?_
    refine lv_iload_n hx hb dX0_ownsItsEdge_20 rfl (lv_at hl 2 rfl) ?_
    refine td_lald hx hb hK hP 2 1 kb rfl rfl rfl (by omega) (by decide) dX0_ownsItsEdge_21 ?_
    refine lv_aload_n hx hb dX0_ownsItsEdge_22 rfl (lv_at hl 0 rfl) ?_
    refine va_get (D := (dC, dI)) (ci := 0) (v := .ref aY) (C := RX0) (T := TX0) (N := 5) hx hb hts td_fX0 hown hK hP 0 rfl rfl 1 (by decide) (hts (.fieldLink RX0 15 "TileDesk$Shape" "ys" "[J") (td_i1 (List.mem_of_getElem? (i := 22) rfl))) (fun _ h9 => h9) rfl dX0_ownsItsEdge_23 ?_
    refine lv_iload_n hx hb dX0_ownsItsEdge_26 rfl (lv_at hl 1 rfl) ?_
    refine td_lald hx hb hK hP 2 1 ka rfl rfl rfl (by omega) (by decide) dX0_ownsItsEdge_27 ?_
    refine W.lcmp hx hb dX0_ownsItsEdge_28 ?_
    refine td_lne (tgt := 52) hx hb dX0_ownsItsEdge_29 (by decide) (fun c29_2 => ?_) (fun c29_2 => ?_)
    · refine lv_iconst (v := 0) hx hb dX0_ownsItsEdge_52 (by decide) ?_
      exact td_rri hx hb hr rfl hlocks (by rw [td_bz0 (by rintro (h | ⟨h, h2⟩) <;> first | contradiction | exact absurd h2 (Int64.not_lt.mpr (by assumption)))]) dX0_ownsItsEdge_53
    · refine lv_aload_n hx hb dX0_ownsItsEdge_32 rfl (lv_at hl 0 rfl) ?_
      refine va_get (D := (dC, dI)) (ci := 0) (v := .ref aX) (C := RX0) (T := TX0) (N := 5) hx hb hts td_fX0 hown hK hP 0 rfl rfl 0 (by decide) (hts (.fieldLink RX0 9 "TileDesk$Shape" "xs" "[J") (td_i1 (List.mem_of_getElem? (i := 21) rfl))) (fun _ h9 => h9) rfl dX0_ownsItsEdge_33 ?_
      refine lv_iload_n hx hb dX0_ownsItsEdge_36 rfl (lv_at hl 2 rfl) ?_
      refine td_lald hx hb hK hP 1 1 kb rfl rfl rfl (by omega) (by decide) dX0_ownsItsEdge_37 ?_
      refine lv_aload_n hx hb dX0_ownsItsEdge_38 rfl (lv_at hl 0 rfl) ?_
      refine va_get (D := (dC, dI)) (ci := 0) (v := .ref aX) (C := RX0) (T := TX0) (N := 5) hx hb hts td_fX0 hown hK hP 0 rfl rfl 0 (by decide) (hts (.fieldLink RX0 9 "TileDesk$Shape" "xs" "[J") (td_i1 (List.mem_of_getElem? (i := 21) rfl))) (fun _ h9 => h9) rfl dX0_ownsItsEdge_39 ?_
      refine lv_iload_n hx hb dX0_ownsItsEdge_42 rfl (lv_at hl 1 rfl) ?_
      refine td_lald hx hb hK hP 1 1 ka rfl rfl rfl (by omega) (by decide) dX0_ownsItsEdge_43 ?_
      refine W.lcmp hx hb dX0_ownsItsEdge_44 ?_
      refine td_lle (tgt := 52) hx hb dX0_ownsItsEdge_45 (by decide) (fun c45_3 => ?_) (fun c45_3 => ?_)
      · refine lv_iconst (v := 0) hx hb dX0_ownsItsEdge_52 (by decide) ?_
        exact td_rri hx hb hr rfl hlocks (by rw [td_bz0 (by rintro (h | ⟨h, h2⟩) <;> first | contradiction | exact absurd h2 (Int64.not_lt.mpr (by assumption)))]) dX0_ownsItsEdge_53
      · refine lv_iconst (v := 1) hx hb dX0_ownsItsEdge_48 (by decide) ?_
        refine lv_goto (tgt := 53) hx hb dX0_ownsItsEdge_49 (by decide) ?_
        exact td_rri hx hb hr rfl hlocks (by rw [td_bz1 (by first | exact Or.inl (by assumption) | exact Or.inr ⟨by assumption, Int64.not_le.mp (by assumption)⟩)]) dX0_ownsItsEdge_53
set_option maxHeartbeats 4000000 in
set_option maxRecDepth 100000 in
/-- Shape.weighedR -/
theorem td_weighedR (l : Launch) (dC : Nat → ClassId) (dI : Nat → Nat → Nat) (cI cJ cZ : ClassId) (qS : Nat) (aX : Nat) (aY : Nat) (aR : Nat) (aL : Nat) (aW : Nat) (vX : Nat → Int64) (vY : Nat → Int64) (vR : Nat → Int64) (vL : Nat → Int64) (vW : Nat → Int64) : Met l yX0_weighedR wsX0_weighedR ({ frames := 0, cells := 0, slots := 0, locals := 0 }) (td_RP (dC, dI) vwCl (td_T cI cJ cZ) td_nl [(qS, .inr (0, [.ref aX, .ref aY, .ref aR, .ref aL, .ref aW])), (aX, .inl (cJ, 3, .inr (.inl vX))), (aY, .inl (cJ, 3, .inr (.inl vY))), (aR, .inl (cJ, 3, .inr (.inl vR))), (aL, .inl (cJ, 3, .inr (.inl vL))), (aW, .inl (cJ, 3, .inr (.inl vW)))] [.ref qS]) (vp_Sl (fun r => r = td_wr vW vR)) 0 0 (fun _ => False) := by
  refine Met.ofW (cc := cX0_weighedR) (maxL := 1) (ret := (some .long)) (by decide) rfl ?_
  intro p e s m args below meth c s₁ B hml hv
  obtain ⟨rfl, hP, hK, hZ⟩ := hv
  have hx := B.exec
  have hb := B.bytes
  have hr := B.returns
  have hts := atoms_spec (ws := wsX0_weighedR) B.pre
  have hown : s.vm.findClass RX0 = some m.cls := findClass_of_methodNamed B.named
  have hlocks := B.notSynchronized
  have hP : va_P (dC, dI) vwCl [(qS, .inr (0, [.ref aX, .ref aY, .ref aR, .ref aL, .ref aW])), (aX, .inl (cJ, 3, .inr (.inl vX))), (aY, .inl (cJ, 3, .inr (.inl vY))), (aR, .inl (cJ, 3, .inr (.inl vR))), (aL, .inl (cJ, 3, .inr (.inl vL))), (aW, .inl (cJ, 3, .inr (.inl vW)))] s.heap := hP
  have hl := lv_entry ([.ref qS]) (n := 1) (Nat.le_of_ble_eq_true rfl)
  rw [lg_entry_eq]
  generalize (lg_sl ([.ref qS]) ++ List.replicate (1 - (lg_sl ([.ref qS])).length) Slot.unset).toArray = ls at hl ⊢
  have hl : lv_has ls 1 [(0, .ref qS)] := hl
  refine lv_aload_n hx hb dX0_weighedR_0 rfl (lv_at hl 0 rfl) ?_
  refine va_get (D := (dC, dI)) (ci := 0) (v := .ref aW) (C := RX0) (T := TX0) (N := 5) hx hb hts td_fX0 hown hK hP 0 rfl rfl 4 (by decide) (hts (.fieldLink RX0 24 "TileDesk$Shape" "weights" "[J") (td_i2 (List.mem_of_getElem? (i := 1) rfl))) (fun _ h9 => h9) rfl dX0_weighedR_1 ?_
  refine lv_iconst (v := 0) hx hb dX0_weighedR_4 (by decide) ?_
  refine td_lald hx hb hK hP 5 1 0 rfl rfl rfl (by decide) (by decide) dX0_weighedR_5 ?_
  refine lv_aload_n hx hb dX0_weighedR_6 rfl (lv_at hl 0 rfl) ?_
  refine va_get (D := (dC, dI)) (ci := 0) (v := .ref aR) (C := RX0) (T := TX0) (N := 5) hx hb hts td_fX0 hown hK hP 0 rfl rfl 2 (by decide) (hts (.fieldLink RX0 18 "TileDesk$Shape" "rs" "[J") (td_i1 (List.mem_of_getElem? (i := 23) rfl))) (fun _ h9 => h9) rfl dX0_weighedR_7 ?_
  refine lv_iconst (v := 0) hx hb dX0_weighedR_10 (by decide) ?_
  refine td_lald hx hb hK hP 3 1 0 rfl rfl rfl (by decide) (by decide) dX0_weighedR_11 ?_
  refine lv_lmul hx hb dX0_weighedR_12 ?_
  refine lv_aload_n hx hb dX0_weighedR_13 rfl (lv_at hl 0 rfl) ?_
  refine va_get (D := (dC, dI)) (ci := 0) (v := .ref aW) (C := RX0) (T := TX0) (N := 5) hx hb hts td_fX0 hown hK hP 0 rfl rfl 4 (by decide) (hts (.fieldLink RX0 24 "TileDesk$Shape" "weights" "[J") (td_i2 (List.mem_of_getElem? (i := 1) rfl))) (fun _ h9 => h9) rfl dX0_weighedR_14 ?_
  refine lv_iconst (v := 1) hx hb dX0_weighedR_17 (by decide) ?_
  refine td_lald hx hb hK hP 5 1 1 rfl rfl rfl (by decide) (by decide) dX0_weighedR_18 ?_
  refine lv_aload_n hx hb dX0_weighedR_19 rfl (lv_at hl 0 rfl) ?_
  refine va_get (D := (dC, dI)) (ci := 0) (v := .ref aR) (C := RX0) (T := TX0) (N := 5) hx hb hts td_fX0 hown hK hP 0 rfl rfl 2 (by decide) (hts (.fieldLink RX0 18 "TileDesk$Shape" "rs" "[J") (td_i1 (List.mem_of_getElem? (i := 23) rfl))) (fun _ h9 => h9) rfl dX0_weighedR_20 ?_
  refine lv_iconst (v := 1) hx hb dX0_weighedR_23 (by decide) ?_
  refine td_lald hx hb hK hP 3 1 1 rfl rfl rfl (by decide) (by decide) dX0_weighedR_24 ?_
  refine lv_lmul hx hb dX0_weighedR_25 ?_
  refine lv_ladd hx hb dX0_weighedR_26 ?_
  refine lv_aload_n hx hb dX0_weighedR_27 rfl (lv_at hl 0 rfl) ?_
  refine va_get (D := (dC, dI)) (ci := 0) (v := .ref aW) (C := RX0) (T := TX0) (N := 5) hx hb hts td_fX0 hown hK hP 0 rfl rfl 4 (by decide) (hts (.fieldLink RX0 24 "TileDesk$Shape" "weights" "[J") (td_i2 (List.mem_of_getElem? (i := 1) rfl))) (fun _ h9 => h9) rfl dX0_weighedR_28 ?_
  refine lv_iconst (v := 2) hx hb dX0_weighedR_31 (by decide) ?_
  refine td_lald hx hb hK hP 5 1 2 rfl rfl rfl (by decide) (by decide) dX0_weighedR_32 ?_
  refine lv_aload_n hx hb dX0_weighedR_33 rfl (lv_at hl 0 rfl) ?_
  refine va_get (D := (dC, dI)) (ci := 0) (v := .ref aR) (C := RX0) (T := TX0) (N := 5) hx hb hts td_fX0 hown hK hP 0 rfl rfl 2 (by decide) (hts (.fieldLink RX0 18 "TileDesk$Shape" "rs" "[J") (td_i1 (List.mem_of_getElem? (i := 23) rfl))) (fun _ h9 => h9) rfl dX0_weighedR_34 ?_
  refine lv_iconst (v := 2) hx hb dX0_weighedR_37 (by decide) ?_
  refine td_lald hx hb hK hP 3 1 2 rfl rfl rfl (by decide) (by decide) dX0_weighedR_38 ?_
  refine lv_lmul hx hb dX0_weighedR_39 ?_
  refine lv_ladd hx hb dX0_weighedR_40 ?_
  exact td_rrl hx hb hr hlocks (rfl) dX0_weighedR_41
set_option maxHeartbeats 4000000 in
set_option maxRecDepth 100000 in
/-- Shape.nearnessHere -/
theorem td_nearnessHere (l : Launch) (dC : Nat → ClassId) (dI : Nat → Nat → Nat) (cI cJ cZ : ClassId) (qS : Nat) (aX : Nat) (aY : Nat) (aR : Nat) (aL : Nat) (aW : Nat) (vX : Nat → Int64) (vY : Nat → Int64) (vR : Nat → Int64) (vL : Nat → Int64) (vW : Nat → Int64) : Met l yX0_nearnessHere wsX0_nearnessHere ({ frames := 2, cells := 0, slots := 0, locals := 48 }) (td_RP (dC, dI) vwCl (td_T cI cJ cZ) td_nl [(qS, .inr (0, [.ref aX, .ref aY, .ref aR, .ref aL, .ref aW])), (aX, .inl (cJ, 3, .inr (.inl vX))), (aY, .inl (cJ, 3, .inr (.inl vY))), (aR, .inl (cJ, 3, .inr (.inl vR))), (aL, .inl (cJ, 3, .inr (.inl vL))), (aW, .inl (cJ, 3, .inr (.inl vW)))] [.ref qS]) (vp_Sl (fun r => r = td_q (td_wr vW vR) (td_ca vX vY))) 0 0 (fun _ => False) := by
  refine Met.ofW (cc := cX0_nearnessHere) (maxL := 1) (ret := (some .long)) (by decide) rfl ?_
  intro p e s m args below meth c s₁ B hml hv
  obtain ⟨rfl, hP, hK, hZ⟩ := hv
  have hx := B.exec
  have hb := B.bytes
  have hr := B.returns
  have hts := atoms_spec (ws := wsX0_nearnessHere) B.pre
  have hown : s.vm.findClass RX0 = some m.cls := findClass_of_methodNamed B.named
  have hlocks := B.notSynchronized
  have hP : va_P (dC, dI) vwCl [(qS, .inr (0, [.ref aX, .ref aY, .ref aR, .ref aL, .ref aW])), (aX, .inl (cJ, 3, .inr (.inl vX))), (aY, .inl (cJ, 3, .inr (.inl vY))), (aR, .inl (cJ, 3, .inr (.inl vR))), (aL, .inl (cJ, 3, .inr (.inl vL))), (aW, .inl (cJ, 3, .inr (.inl vW)))] s.heap := hP
  have hl := lv_entry ([.ref qS]) (n := 1) (Nat.le_of_ble_eq_true rfl)
  rw [lg_entry_eq]
  generalize (lg_sl ([.ref qS]) ++ List.replicate (1 - (lg_sl ([.ref qS])).length) Slot.unset).toArray = ls at hl ⊢
  have hl : lv_has ls 1 [(0, .ref qS)] := hl
  refine lv_aload_n hx hb dX0_nearnessHere_0 rfl (lv_at hl 0 rfl) ?_
  refine td_csl (va_runV (As := []) (rest := []) ⟨hx, hb, hml, hown, hts⟩ (td_weighedR l dC dI cI cJ cZ qS aX aY aR aL aW vX vY vR vL vW) (cwV 0 hts (td_gV (td_i10 (List.mem_of_getElem? (i := 6) rfl)) (td_i10 (List.mem_of_getElem? (i := 7) rfl)) (td_i15 (List.mem_of_getElem? (i := 15) rfl)) (td_i1 (List.mem_of_getElem? (i := 2) rfl)) (td_i10 (List.mem_of_getElem? (i := 8) rfl))) rfl rfl rfl (by decide +kernel) ⟨(Nat.le_of_ble_eq_true rfl), (Nat.le_of_ble_eq_true rfl)⟩) (td_pRV hK hZ hP [0, 1, 2, 3, 4, 5] rfl (va_recv hK hP (ci := 0) (q0 := 0) rfl rfl)) rfl rfl hl.1 rfl (lv_room (Nat.le_of_ble_eq_true rfl)) dX0_nearnessHere_1 ⟨Nat.zero_le _, Nat.zero_le _⟩) ?_
  refine lv_aload_n hx hb dX0_nearnessHere_4 rfl (lv_at hl 0 rfl) ?_
  refine td_csl (va_runV (As := []) (rest := [.long (td_wr vW vR)]) ⟨hx, hb, hml, hown, hts⟩ (td_areaC l dC dI cI cJ cZ qS aX aY aR aL aW vX vY vR vL vW) (cwV 0 hts (td_gV (td_i10 (List.mem_of_getElem? (i := 9) rfl)) (td_i4 (List.mem_of_getElem? (i := 21) rfl)) (td_i4 (List.mem_of_getElem? (i := 22) rfl)) (td_i1 (List.mem_of_getElem? (i := 2) rfl)) (td_i4 (List.mem_of_getElem? (i := 23) rfl))) rfl rfl rfl (by decide +kernel) ⟨(Nat.le_of_ble_eq_true rfl), (Nat.le_of_ble_eq_true rfl)⟩) (td_pRV hK hZ hP [0, 1, 2, 3, 4, 5] rfl (va_recv hK hP (ci := 0) (q0 := 0) rfl rfl)) rfl rfl hl.1 rfl (lv_room (Nat.le_of_ble_eq_true rfl)) dX0_nearnessHere_5 ⟨Nat.zero_le _, Nat.zero_le _⟩) ?_
  refine td_csl (va_runSN (As := [.long (td_wr vW vR), .long (td_ca vX vY)]) (rest := []) ⟨hx, hb, hml, hown, hts⟩ (td_quotient l dC dI cI cJ cZ (td_wr vW vR) (td_ca vX vY)) (⟨va_cnB 2 hts (td_gC (td_i7 (List.mem_of_getElem? (i := 3) rfl))) rfl rfl rfl (hZ.2 _ (List.mem_of_getElem? (i := 15) rfl)) (hts (.initialized RX3) (td_i1 (List.mem_of_getElem? (i := 1) rfl))) (by decide +kernel) ⟨(Nat.le_of_ble_eq_true rfl), (Nat.le_of_ble_eq_true rfl)⟩, (hts (.static yX3_quotient) (td_i7 (List.mem_of_getElem? (i := 2) rfl))), trivial⟩) (td_pRS hK hZ hP [] rfl) rfl rfl hl.1 rfl (lv_room (Nat.le_of_ble_eq_true rfl)) dX0_nearnessHere_8 ⟨Nat.zero_le _, Nat.zero_le _⟩) ?_
  exact td_rrl hx hb hr hlocks (rfl) dX0_nearnessHere_11
set_option maxHeartbeats 4000000 in
set_option maxRecDepth 100000 in
/-- Shape.lightHere -/
theorem td_lightHere (l : Launch) (dC : Nat → ClassId) (dI : Nat → Nat → Nat) (cI cJ cZ : ClassId) (qS : Nat) (aX : Nat) (aY : Nat) (aR : Nat) (aL : Nat) (aW : Nat) (vX : Nat → Int64) (vY : Nat → Int64) (vR : Nat → Int64) (vL : Nat → Int64) (vW : Nat → Int64) : Met l yX0_lightHere wsX0_lightHere ({ frames := 2, cells := 0, slots := 0, locals := 48 }) (td_RP (dC, dI) vwCl (td_T cI cJ cZ) td_nl [(qS, .inr (0, [.ref aX, .ref aY, .ref aR, .ref aL, .ref aW])), (aX, .inl (cJ, 3, .inr (.inl vX))), (aY, .inl (cJ, 3, .inr (.inl vY))), (aR, .inl (cJ, 3, .inr (.inl vR))), (aL, .inl (cJ, 3, .inr (.inl vL))), (aW, .inl (cJ, 3, .inr (.inl vW)))] [.ref qS]) (vp_Sl (fun r => r = td_q (td_wl vW vR vL) (td_wr vW vR))) 0 0 (fun _ => False) := by
  refine Met.ofW (cc := cX0_lightHere) (maxL := 3) (ret := (some .long)) (by decide) rfl ?_
  intro p e s m args below meth c s₁ B hml hv
  obtain ⟨rfl, hP, hK, hZ⟩ := hv
  have hx := B.exec
  have hb := B.bytes
  have hr := B.returns
  have hts := atoms_spec (ws := wsX0_lightHere) B.pre
  have hown : s.vm.findClass RX0 = some m.cls := findClass_of_methodNamed B.named
  have hlocks := B.notSynchronized
  have hP : va_P (dC, dI) vwCl [(qS, .inr (0, [.ref aX, .ref aY, .ref aR, .ref aL, .ref aW])), (aX, .inl (cJ, 3, .inr (.inl vX))), (aY, .inl (cJ, 3, .inr (.inl vY))), (aR, .inl (cJ, 3, .inr (.inl vR))), (aL, .inl (cJ, 3, .inr (.inl vL))), (aW, .inl (cJ, 3, .inr (.inl vW)))] s.heap := hP
  have hl := lv_entry ([.ref qS]) (n := 3) (Nat.le_of_ble_eq_true rfl)
  rw [lg_entry_eq]
  generalize (lg_sl ([.ref qS]) ++ List.replicate (3 - (lg_sl ([.ref qS])).length) Slot.unset).toArray = ls at hl ⊢
  have hl : lv_has ls 3 [(0, .ref qS)] := hl
  refine lv_aload_n hx hb dX0_lightHere_0 rfl (lv_at hl 0 rfl) ?_
  refine va_get (D := (dC, dI)) (ci := 0) (v := .ref aW) (C := RX0) (T := TX0) (N := 5) hx hb hts td_fX0 hown hK hP 0 rfl rfl 4 (by decide) (hts (.fieldLink RX0 24 "TileDesk$Shape" "weights" "[J") (td_i2 (List.mem_of_getElem? (i := 1) rfl))) (fun _ h9 => h9) rfl dX0_lightHere_1 ?_
  refine lv_iconst (v := 0) hx hb dX0_lightHere_4 (by decide) ?_
  refine td_lald hx hb hK hP 5 1 0 rfl rfl rfl (by decide) (by decide) dX0_lightHere_5 ?_
  refine lv_aload_n hx hb dX0_lightHere_6 rfl (lv_at hl 0 rfl) ?_
  refine va_get (D := (dC, dI)) (ci := 0) (v := .ref aR) (C := RX0) (T := TX0) (N := 5) hx hb hts td_fX0 hown hK hP 0 rfl rfl 2 (by decide) (hts (.fieldLink RX0 18 "TileDesk$Shape" "rs" "[J") (td_i1 (List.mem_of_getElem? (i := 23) rfl))) (fun _ h9 => h9) rfl dX0_lightHere_7 ?_
  refine lv_iconst (v := 0) hx hb dX0_lightHere_10 (by decide) ?_
  refine td_lald hx hb hK hP 3 1 0 rfl rfl rfl (by decide) (by decide) dX0_lightHere_11 ?_
  refine lv_lmul hx hb dX0_lightHere_12 ?_
  refine lv_aload_n hx hb dX0_lightHere_13 rfl (lv_at hl 0 rfl) ?_
  refine va_get (D := (dC, dI)) (ci := 0) (v := .ref aL) (C := RX0) (T := TX0) (N := 5) hx hb hts td_fX0 hown hK hP 0 rfl rfl 3 (by decide) (hts (.fieldLink RX0 21 "TileDesk$Shape" "lights" "[J") (td_i2 (List.mem_of_getElem? (i := 0) rfl))) (fun _ h9 => h9) rfl dX0_lightHere_14 ?_
  refine lv_iconst (v := 0) hx hb dX0_lightHere_17 (by decide) ?_
  refine td_lald hx hb hK hP 4 1 0 rfl rfl rfl (by decide) (by decide) dX0_lightHere_18 ?_
  refine lv_lmul hx hb dX0_lightHere_19 ?_
  refine lv_aload_n hx hb dX0_lightHere_20 rfl (lv_at hl 0 rfl) ?_
  refine va_get (D := (dC, dI)) (ci := 0) (v := .ref aW) (C := RX0) (T := TX0) (N := 5) hx hb hts td_fX0 hown hK hP 0 rfl rfl 4 (by decide) (hts (.fieldLink RX0 24 "TileDesk$Shape" "weights" "[J") (td_i2 (List.mem_of_getElem? (i := 1) rfl))) (fun _ h9 => h9) rfl dX0_lightHere_21 ?_
  refine lv_iconst (v := 1) hx hb dX0_lightHere_24 (by decide) ?_
  refine td_lald hx hb hK hP 5 1 1 rfl rfl rfl (by decide) (by decide) dX0_lightHere_25 ?_
  refine lv_aload_n hx hb dX0_lightHere_26 rfl (lv_at hl 0 rfl) ?_
  refine va_get (D := (dC, dI)) (ci := 0) (v := .ref aR) (C := RX0) (T := TX0) (N := 5) hx hb hts td_fX0 hown hK hP 0 rfl rfl 2 (by decide) (hts (.fieldLink RX0 18 "TileDesk$Shape" "rs" "[J") (td_i1 (List.mem_of_getElem? (i := 23) rfl))) (fun _ h9 => h9) rfl dX0_lightHere_27 ?_
  refine lv_iconst (v := 1) hx hb dX0_lightHere_30 (by decide) ?_
  refine td_lald hx hb hK hP 3 1 1 rfl rfl rfl (by decide) (by decide) dX0_lightHere_31 ?_
  refine lv_lmul hx hb dX0_lightHere_32 ?_
  refine lv_aload_n hx hb dX0_lightHere_33 rfl (lv_at hl 0 rfl) ?_
  refine va_get (D := (dC, dI)) (ci := 0) (v := .ref aL) (C := RX0) (T := TX0) (N := 5) hx hb hts td_fX0 hown hK hP 0 rfl rfl 3 (by decide) (hts (.fieldLink RX0 21 "TileDesk$Shape" "lights" "[J") (td_i2 (List.mem_of_getElem? (i := 0) rfl))) (fun _ h9 => h9) rfl dX0_lightHere_34 ?_
  refine lv_iconst (v := 1) hx hb dX0_lightHere_37 (by decide) ?_
  refine td_lald hx hb hK hP 4 1 1 rfl rfl rfl (by decide) (by decide) dX0_lightHere_38 ?_
  refine lv_lmul hx hb dX0_lightHere_39 ?_
  refine lv_ladd hx hb dX0_lightHere_40 ?_
  refine lv_aload_n hx hb dX0_lightHere_41 rfl (lv_at hl 0 rfl) ?_
  refine va_get (D := (dC, dI)) (ci := 0) (v := .ref aW) (C := RX0) (T := TX0) (N := 5) hx hb hts td_fX0 hown hK hP 0 rfl rfl 4 (by decide) (hts (.fieldLink RX0 24 "TileDesk$Shape" "weights" "[J") (td_i2 (List.mem_of_getElem? (i := 1) rfl))) (fun _ h9 => h9) rfl dX0_lightHere_42 ?_
  refine lv_iconst (v := 2) hx hb dX0_lightHere_45 (by decide) ?_
  refine td_lald hx hb hK hP 5 1 2 rfl rfl rfl (by decide) (by decide) dX0_lightHere_46 ?_
  refine lv_aload_n hx hb dX0_lightHere_47 rfl (lv_at hl 0 rfl) ?_
  refine va_get (D := (dC, dI)) (ci := 0) (v := .ref aR) (C := RX0) (T := TX0) (N := 5) hx hb hts td_fX0 hown hK hP 0 rfl rfl 2 (by decide) (hts (.fieldLink RX0 18 "TileDesk$Shape" "rs" "[J") (td_i1 (List.mem_of_getElem? (i := 23) rfl))) (fun _ h9 => h9) rfl dX0_lightHere_48 ?_
  refine lv_iconst (v := 2) hx hb dX0_lightHere_51 (by decide) ?_
  refine td_lald hx hb hK hP 3 1 2 rfl rfl rfl (by decide) (by decide) dX0_lightHere_52 ?_
  refine lv_lmul hx hb dX0_lightHere_53 ?_
  refine lv_aload_n hx hb dX0_lightHere_54 rfl (lv_at hl 0 rfl) ?_
  refine va_get (D := (dC, dI)) (ci := 0) (v := .ref aL) (C := RX0) (T := TX0) (N := 5) hx hb hts td_fX0 hown hK hP 0 rfl rfl 3 (by decide) (hts (.fieldLink RX0 21 "TileDesk$Shape" "lights" "[J") (td_i2 (List.mem_of_getElem? (i := 0) rfl))) (fun _ h9 => h9) rfl dX0_lightHere_55 ?_
  refine lv_iconst (v := 2) hx hb dX0_lightHere_58 (by decide) ?_
  refine td_lald hx hb hK hP 4 1 2 rfl rfl rfl (by decide) (by decide) dX0_lightHere_59 ?_
  refine lv_lmul hx hb dX0_lightHere_60 ?_
  refine lv_ladd hx hb dX0_lightHere_61 ?_
  refine lv_lstore_n (lv' := [(1, .long (((((vW 0) * (vR 0)) * (vL 0)) + (((vW 1) * (vR 1)) * (vL 1))) + (((vW 2) * (vR 2)) * (vL 2)))), (0, .ref qS)]) hx hb dX0_lightHere_62 rfl hl (by decide) rfl (fun ls hl => ?_)
  refine lv_lload_n hx hb dX0_lightHere_63 rfl (lv_at hl 0 rfl) ?_
  refine lv_aload_n hx hb dX0_lightHere_64 rfl (lv_at hl 1 rfl) ?_
  refine td_csl (va_runV (As := []) (rest := [.long (((((vW 0) * (vR 0)) * (vL 0)) + (((vW 1) * (vR 1)) * (vL 1))) + (((vW 2) * (vR 2)) * (vL 2)))]) ⟨hx, hb, hml, hown, hts⟩ (td_weighedR l dC dI cI cJ cZ qS aX aY aR aL aW vX vY vR vL vW) (cwV 0 hts (td_gV (td_i10 (List.mem_of_getElem? (i := 6) rfl)) (td_i10 (List.mem_of_getElem? (i := 7) rfl)) (td_i15 (List.mem_of_getElem? (i := 15) rfl)) (td_i1 (List.mem_of_getElem? (i := 2) rfl)) (td_i10 (List.mem_of_getElem? (i := 8) rfl))) rfl rfl rfl (by decide +kernel) ⟨(Nat.le_of_ble_eq_true rfl), (Nat.le_of_ble_eq_true rfl)⟩) (td_pRV hK hZ hP [0, 1, 2, 3, 4, 5] rfl (va_recv hK hP (ci := 0) (q0 := 0) rfl rfl)) rfl rfl hl.1 rfl (lv_room (Nat.le_of_ble_eq_true rfl)) dX0_lightHere_65 ⟨Nat.zero_le _, Nat.zero_le _⟩) ?_
  refine td_csl (va_runSN (As := [.long (((((vW 0) * (vR 0)) * (vL 0)) + (((vW 1) * (vR 1)) * (vL 1))) + (((vW 2) * (vR 2)) * (vL 2))), .long (td_wr vW vR)]) (rest := []) ⟨hx, hb, hml, hown, hts⟩ (td_quotient l dC dI cI cJ cZ (((((vW 0) * (vR 0)) * (vL 0)) + (((vW 1) * (vR 1)) * (vL 1))) + (((vW 2) * (vR 2)) * (vL 2))) (td_wr vW vR)) (⟨va_cnB 2 hts (td_gC (td_i7 (List.mem_of_getElem? (i := 3) rfl))) rfl rfl rfl (hZ.2 _ (List.mem_of_getElem? (i := 15) rfl)) (hts (.initialized RX3) (td_i1 (List.mem_of_getElem? (i := 1) rfl))) (by decide +kernel) ⟨(Nat.le_of_ble_eq_true rfl), (Nat.le_of_ble_eq_true rfl)⟩, (hts (.static yX3_quotient) (td_i7 (List.mem_of_getElem? (i := 2) rfl))), trivial⟩) (td_pRS hK hZ hP [] rfl) rfl rfl hl.1 rfl (lv_room (Nat.le_of_ble_eq_true rfl)) dX0_lightHere_68 ⟨Nat.zero_le _, Nat.zero_le _⟩) ?_
  exact td_rrl hx hb hr hlocks (rfl) dX0_lightHere_71
set_option maxHeartbeats 4000000 in
set_option maxRecDepth 100000 in
/-- Shape.least -/
theorem td_least (l : Launch) (dC : Nat → ClassId) (dI : Nat → Nat → Nat) (cI cJ cZ : ClassId) (aX : Nat) (vX : Nat → Int64) : Met l yX0_least wsX0_least ({ frames := 1, cells := 0, slots := 0, locals := 17 }) (td_RP (dC, dI) vwCl (td_T cI cJ cZ) td_nl [(aX, .inl (cJ, 3, .inr (.inl vX)))] [.ref aX]) (vp_Sl (fun r => r = td_mn vX)) 0 0 (fun _ => False) := by
  refine Met.ofW (cc := cX0_least) (maxL := 1) (ret := (some .long)) (by decide) rfl ?_
  intro p e s m args below meth c s₁ B hml hv
  obtain ⟨rfl, hP, hK, hZ⟩ := hv
  have hx := B.exec
  have hb := B.bytes
  have hr := B.returns
  have hts := atoms_spec (ws := wsX0_least) B.pre
  have hown : s.vm.findClass RX0 = some m.cls := findClass_of_methodNamed B.named
  have hlocks := B.notSynchronized
  have hP : va_P (dC, dI) vwCl [(aX, .inl (cJ, 3, .inr (.inl vX)))] s.heap := hP
  have hl := lv_entry ([.ref aX]) (n := 1) (Nat.le_of_ble_eq_true rfl)
  rw [lg_entry_eq]
  generalize (lg_sl ([.ref aX]) ++ List.replicate (1 - (lg_sl ([.ref aX])).length) Slot.unset).toArray = ls at hl ⊢
  have hl : lv_has ls 1 [(0, .ref aX)] := hl
  refine lv_aload_n hx hb dX0_least_0 rfl (lv_at hl 0 rfl) ?_
  refine lv_iconst (v := 0) hx hb dX0_least_1 (by decide) ?_
  refine td_lald hx hb hK hP 0 1 0 rfl rfl rfl (by decide) (by decide) dX0_least_2 ?_
  refine lv_aload_n hx hb dX0_least_3 rfl (lv_at hl 0 rfl) ?_
  refine lv_iconst (v := 1) hx hb dX0_least_4 (by decide) ?_
  refine td_lald hx hb hK hP 0 1 1 rfl rfl rfl (by decide) (by decide) dX0_least_5 ?_
  refine lv_aload_n hx hb dX0_least_6 rfl (lv_at hl 0 rfl) ?_
  refine lv_iconst (v := 2) hx hb dX0_least_7 (by decide) ?_
  refine td_lald hx hb hK hP 0 1 2 rfl rfl rfl (by decide) (by decide) dX0_least_8 ?_
  refine va_mmin_long hx hb (by rw [hml]; exact hl.1.symm) hown (hts _ (td_i8 (List.mem_of_getElem? (i := 10) rfl))) (hts _ (td_i8 (List.mem_of_getElem? (i := 11) rfl))) (hts _ (td_i1 (List.mem_of_getElem? (i := 5) rfl))) (hts _ (td_i8 (List.mem_of_getElem? (i := 12) rfl))) (Nat.le_of_ble_eq_true rfl) (Nat.le_of_ble_eq_true rfl) (Nat.zero_le _) (Nat.zero_le _) dX0_least_9 ?_
  refine va_mmin_long hx hb (by rw [hml]; exact hl.1.symm) hown (hts _ (td_i8 (List.mem_of_getElem? (i := 10) rfl))) (hts _ (td_i8 (List.mem_of_getElem? (i := 11) rfl))) (hts _ (td_i1 (List.mem_of_getElem? (i := 5) rfl))) (hts _ (td_i8 (List.mem_of_getElem? (i := 12) rfl))) (Nat.le_of_ble_eq_true rfl) (Nat.le_of_ble_eq_true rfl) (Nat.zero_le _) (Nat.zero_le _) dX0_least_12 ?_
  exact td_rrl hx hb hr hlocks (rfl) dX0_least_15
set_option maxHeartbeats 4000000 in
set_option maxRecDepth 100000 in
/-- Shape.most -/
theorem td_most (l : Launch) (dC : Nat → ClassId) (dI : Nat → Nat → Nat) (cI cJ cZ : ClassId) (aX : Nat) (vX : Nat → Int64) : Met l yX0_most wsX0_most ({ frames := 1, cells := 0, slots := 0, locals := 17 }) (td_RP (dC, dI) vwCl (td_T cI cJ cZ) td_nl [(aX, .inl (cJ, 3, .inr (.inl vX)))] [.ref aX]) (vp_Sl (fun r => r = td_mxx vX)) 0 0 (fun _ => False) := by
  refine Met.ofW (cc := cX0_most) (maxL := 1) (ret := (some .long)) (by decide) rfl ?_
  intro p e s m args below meth c s₁ B hml hv
  obtain ⟨rfl, hP, hK, hZ⟩ := hv
  have hx := B.exec
  have hb := B.bytes
  have hr := B.returns
  have hts := atoms_spec (ws := wsX0_most) B.pre
  have hown : s.vm.findClass RX0 = some m.cls := findClass_of_methodNamed B.named
  have hlocks := B.notSynchronized
  have hP : va_P (dC, dI) vwCl [(aX, .inl (cJ, 3, .inr (.inl vX)))] s.heap := hP
  have hl := lv_entry ([.ref aX]) (n := 1) (Nat.le_of_ble_eq_true rfl)
  rw [lg_entry_eq]
  generalize (lg_sl ([.ref aX]) ++ List.replicate (1 - (lg_sl ([.ref aX])).length) Slot.unset).toArray = ls at hl ⊢
  have hl : lv_has ls 1 [(0, .ref aX)] := hl
  refine lv_aload_n hx hb dX0_most_0 rfl (lv_at hl 0 rfl) ?_
  refine lv_iconst (v := 0) hx hb dX0_most_1 (by decide) ?_
  refine td_lald hx hb hK hP 0 1 0 rfl rfl rfl (by decide) (by decide) dX0_most_2 ?_
  refine lv_aload_n hx hb dX0_most_3 rfl (lv_at hl 0 rfl) ?_
  refine lv_iconst (v := 1) hx hb dX0_most_4 (by decide) ?_
  refine td_lald hx hb hK hP 0 1 1 rfl rfl rfl (by decide) (by decide) dX0_most_5 ?_
  refine lv_aload_n hx hb dX0_most_6 rfl (lv_at hl 0 rfl) ?_
  refine lv_iconst (v := 2) hx hb dX0_most_7 (by decide) ?_
  refine td_lald hx hb hK hP 0 1 2 rfl rfl rfl (by decide) (by decide) dX0_most_8 ?_
  refine va_mmax_long hx hb (by rw [hml]; exact hl.1.symm) hown (hts _ (td_i9 (List.mem_of_getElem? (i := 2) rfl))) (hts _ (td_i9 (List.mem_of_getElem? (i := 3) rfl))) (hts _ (td_i1 (List.mem_of_getElem? (i := 5) rfl))) (hts _ (td_i9 (List.mem_of_getElem? (i := 4) rfl))) (Nat.le_of_ble_eq_true rfl) (Nat.le_of_ble_eq_true rfl) (Nat.zero_le _) (Nat.zero_le _) dX0_most_9 ?_
  refine va_mmax_long hx hb (by rw [hml]; exact hl.1.symm) hown (hts _ (td_i9 (List.mem_of_getElem? (i := 2) rfl))) (hts _ (td_i9 (List.mem_of_getElem? (i := 3) rfl))) (hts _ (td_i1 (List.mem_of_getElem? (i := 5) rfl))) (hts _ (td_i9 (List.mem_of_getElem? (i := 4) rfl))) (Nat.le_of_ble_eq_true rfl) (Nat.le_of_ble_eq_true rfl) (Nat.zero_le _) (Nat.zero_le _) dX0_most_12 ?_
  exact td_rrl hx hb hr hlocks (rfl) dX0_most_15
set_option maxHeartbeats 4000000 in
set_option maxRecDepth 100000 in
/-- Shape.firstMiddle -/
theorem td_firstMiddle (l : Launch) (dC : Nat → ClassId) (dI : Nat → Nat → Nat) (cI cJ cZ : ClassId) (pl : Int64) : Met l yX0_firstMiddle wsX0_firstMiddle ({ frames := 2, cells := 0, slots := 0, locals := 48 }) (td_RP (dC, dI) vwCl (td_T cI cJ cZ) td_nl [] [.long pl]) (vp_Si (fun r => r = td_fm pl)) 0 0 (fun _ => False) := by
  refine Met.ofW (cc := cX0_firstMiddle) (maxL := 2) (ret := (some .int)) (by decide) rfl ?_
  intro p e s m args below meth c s₁ B hml hv
  obtain ⟨rfl, hP, hK, hZ⟩ := hv
  have hx := B.exec
  have hb := B.bytes
  have hr := B.returns
  have hts := atoms_spec (ws := wsX0_firstMiddle) B.pre
  have hown : s.vm.findClass RX0 = some m.cls := findClass_of_methodNamed B.named
  have hlocks := B.notSynchronized
  have hP : va_P (dC, dI) vwCl [] s.heap := hP
  have hl := lv_entry ([.long pl]) (n := 2) (Nat.le_of_ble_eq_true rfl)
  rw [lg_entry_eq]
  generalize (lg_sl ([.long pl]) ++ List.replicate (2 - (lg_sl ([.long pl])).length) Slot.unset).toArray = ls at hl ⊢
  have hl : lv_has ls 2 [(0, .long pl)] := hl
  refine lv_lload_n hx hb dX0_firstMiddle_0 rfl (lv_at hl 0 rfl) ?_
  refine lv_ldc2 (own := RX0) (v := 8) hx hb hown (hts (.constantLong RX0 76 8) (td_i8 (List.mem_of_getElem? (i := 16) rfl))) dX0_firstMiddle_1 ?_
  refine lv_lsub hx hb dX0_firstMiddle_4 ?_
  refine lv_ldc2 (own := RX0) (v := 16) hx hb hown (hts (.constantLong RX0 78 16) (td_i8 (List.mem_of_getElem? (i := 17) rfl))) dX0_firstMiddle_5 ?_
  refine lv_ladd hx hb dX0_firstMiddle_8 ?_
  refine lv_lconst (v := 1) hx hb dX0_firstMiddle_9 (by decide) ?_
  refine lv_lsub hx hb dX0_firstMiddle_10 ?_
  refine lv_ldc2 (own := RX0) (v := 16) hx hb hown (hts (.constantLong RX0 78 16) (td_i8 (List.mem_of_getElem? (i := 17) rfl))) dX0_firstMiddle_11 ?_
  refine td_csl (va_runSN (As := [.long (((pl - 8) + 16) - 1), .long 16]) (rest := []) ⟨hx, hb, hml, hown, hts⟩ (td_quotient l dC dI cI cJ cZ (((pl - 8) + 16) - 1) 16) (⟨va_cnB 2 hts (td_gC (td_i7 (List.mem_of_getElem? (i := 3) rfl))) rfl rfl rfl (hZ.2 _ (List.mem_of_getElem? (i := 15) rfl)) (hts (.initialized RX3) (td_i1 (List.mem_of_getElem? (i := 1) rfl))) (by decide +kernel) ⟨(Nat.le_of_ble_eq_true rfl), (Nat.le_of_ble_eq_true rfl)⟩, (hts (.static yX3_quotient) (td_i7 (List.mem_of_getElem? (i := 2) rfl))), trivial⟩) (td_pRS hK hZ hP [] rfl) rfl rfl hl.1 rfl (lv_room (Nat.le_of_ble_eq_true rfl)) dX0_firstMiddle_14 ⟨Nat.zero_le _, Nat.zero_le _⟩) ?_
  refine lv_l2i (v := (td_q (((pl - 8) + 16) - 1) 16).toInt32) hx hb dX0_firstMiddle_17 rfl ?_
  exact td_rri hx hb hr rfl hlocks (rfl) dX0_firstMiddle_18
set_option maxHeartbeats 4000000 in
set_option maxRecDepth 100000 in
/-- Shape.lastMiddle -/
theorem td_lastMiddle (l : Launch) (dC : Nat → ClassId) (dI : Nat → Nat → Nat) (cI cJ cZ : ClassId) (pl : Int64) : Met l yX0_lastMiddle wsX0_lastMiddle ({ frames := 2, cells := 0, slots := 0, locals := 48 }) (td_RP (dC, dI) vwCl (td_T cI cJ cZ) td_nl [] [.long pl]) (vp_Si (fun r => r = td_lm pl)) 0 0 (fun _ => False) := by
  refine Met.ofW (cc := cX0_lastMiddle) (maxL := 2) (ret := (some .int)) (by decide) rfl ?_
  intro p e s m args below meth c s₁ B hml hv
  obtain ⟨rfl, hP, hK, hZ⟩ := hv
  have hx := B.exec
  have hb := B.bytes
  have hr := B.returns
  have hts := atoms_spec (ws := wsX0_lastMiddle) B.pre
  have hown : s.vm.findClass RX0 = some m.cls := findClass_of_methodNamed B.named
  have hlocks := B.notSynchronized
  have hP : va_P (dC, dI) vwCl [] s.heap := hP
  have hl := lv_entry ([.long pl]) (n := 2) (Nat.le_of_ble_eq_true rfl)
  rw [lg_entry_eq]
  generalize (lg_sl ([.long pl]) ++ List.replicate (2 - (lg_sl ([.long pl])).length) Slot.unset).toArray = ls at hl ⊢
  have hl : lv_has ls 2 [(0, .long pl)] := hl
  refine lv_lload_n hx hb dX0_lastMiddle_0 rfl (lv_at hl 0 rfl) ?_
  refine lv_ldc2 (own := RX0) (v := 8) hx hb hown (hts (.constantLong RX0 76 8) (td_i8 (List.mem_of_getElem? (i := 16) rfl))) dX0_lastMiddle_1 ?_
  refine lv_lsub hx hb dX0_lastMiddle_4 ?_
  refine lv_ldc2 (own := RX0) (v := 16) hx hb hown (hts (.constantLong RX0 78 16) (td_i8 (List.mem_of_getElem? (i := 17) rfl))) dX0_lastMiddle_5 ?_
  refine td_csl (va_runSN (As := [.long (pl - 8), .long 16]) (rest := []) ⟨hx, hb, hml, hown, hts⟩ (td_quotient l dC dI cI cJ cZ (pl - 8) 16) (⟨va_cnB 2 hts (td_gC (td_i7 (List.mem_of_getElem? (i := 3) rfl))) rfl rfl rfl (hZ.2 _ (List.mem_of_getElem? (i := 15) rfl)) (hts (.initialized RX3) (td_i1 (List.mem_of_getElem? (i := 1) rfl))) (by decide +kernel) ⟨(Nat.le_of_ble_eq_true rfl), (Nat.le_of_ble_eq_true rfl)⟩, (hts (.static yX3_quotient) (td_i7 (List.mem_of_getElem? (i := 2) rfl))), trivial⟩) (td_pRS hK hZ hP [] rfl) rfl rfl hl.1 rfl (lv_room (Nat.le_of_ble_eq_true rfl)) dX0_lastMiddle_8 ⟨Nat.zero_le _, Nat.zero_le _⟩) ?_
  refine lv_l2i (v := (td_q (pl - 8) 16).toInt32) hx hb dX0_lastMiddle_11 rfl ?_
  exact td_rri hx hb hr rfl hlocks (rfl) dX0_lastMiddle_12
set_option maxHeartbeats 4000000 in
set_option maxRecDepth 100000 in
/-- Shape.firstColumn -/
theorem td_firstColumn (l : Launch) (dC : Nat → ClassId) (dI : Nat → Nat → Nat) (cI cJ cZ : ClassId) (qS : Nat) (aX : Nat) (aY : Nat) (aR : Nat) (aL : Nat) (aW : Nat) (vX : Nat → Int64) (vY : Nat → Int64) (vR : Nat → Int64) (vL : Nat → Int64) (vW : Nat → Int64) : Met l yX0_firstColumn wsX0_firstColumn ({ frames := 3, cells := 0, slots := 0, locals := 69 }) (td_RP (dC, dI) vwCl (td_T cI cJ cZ) td_nl [(qS, .inr (0, [.ref aX, .ref aY, .ref aR, .ref aL, .ref aW])), (aX, .inl (cJ, 3, .inr (.inl vX))), (aY, .inl (cJ, 3, .inr (.inl vY))), (aR, .inl (cJ, 3, .inr (.inl vR))), (aL, .inl (cJ, 3, .inr (.inl vL))), (aW, .inl (cJ, 3, .inr (.inl vW)))] [.ref qS]) (vp_Si (fun r => r = td_fm (td_mn vX))) 0 0 (fun _ => False) := by
  refine Met.ofW (cc := cX0_firstColumn) (maxL := 1) (ret := (some .int)) (by decide) rfl ?_
  intro p e s m args below meth c s₁ B hml hv
  obtain ⟨rfl, hP, hK, hZ⟩ := hv
  have hx := B.exec
  have hb := B.bytes
  have hr := B.returns
  have hts := atoms_spec (ws := wsX0_firstColumn) B.pre
  have hown : s.vm.findClass RX0 = some m.cls := findClass_of_methodNamed B.named
  have hlocks := B.notSynchronized
  have hP : va_P (dC, dI) vwCl [(qS, .inr (0, [.ref aX, .ref aY, .ref aR, .ref aL, .ref aW])), (aX, .inl (cJ, 3, .inr (.inl vX))), (aY, .inl (cJ, 3, .inr (.inl vY))), (aR, .inl (cJ, 3, .inr (.inl vR))), (aL, .inl (cJ, 3, .inr (.inl vL))), (aW, .inl (cJ, 3, .inr (.inl vW)))] s.heap := hP
  have hl := lv_entry ([.ref qS]) (n := 1) (Nat.le_of_ble_eq_true rfl)
  rw [lg_entry_eq]
  generalize (lg_sl ([.ref qS]) ++ List.replicate (1 - (lg_sl ([.ref qS])).length) Slot.unset).toArray = ls at hl ⊢
  have hl : lv_has ls 1 [(0, .ref qS)] := hl
  refine lv_aload_n hx hb dX0_firstColumn_0 rfl (lv_at hl 0 rfl) ?_
  refine va_get (D := (dC, dI)) (ci := 0) (v := .ref aX) (C := RX0) (T := TX0) (N := 5) hx hb hts td_fX0 hown hK hP 0 rfl rfl 0 (by decide) (hts (.fieldLink RX0 9 "TileDesk$Shape" "xs" "[J") (td_i1 (List.mem_of_getElem? (i := 21) rfl))) (fun _ h9 => h9) rfl dX0_firstColumn_1 ?_
  refine td_csl (va_runS (As := [.ref aX]) (rest := []) ⟨hx, hb, hml, hown, hts⟩ (td_least l dC dI cI cJ cZ aX vX) (va_cwS 1 hts (td_gS (td_i8 (List.mem_of_getElem? (i := 7) rfl)) (td_i8 (List.mem_of_getElem? (i := 8) rfl)) (td_i1 (List.mem_of_getElem? (i := 2) rfl)) (td_i8 (List.mem_of_getElem? (i := 9) rfl))) rfl rfl rfl (by decide +kernel) ⟨(Nat.le_of_ble_eq_true rfl), (Nat.le_of_ble_eq_true rfl)⟩) (td_pRS hK hZ hP [1] rfl) rfl rfl hl.1 rfl (lv_room (Nat.le_of_ble_eq_true rfl)) dX0_firstColumn_4 ⟨Nat.zero_le _, Nat.zero_le _⟩) ?_
  refine td_csi (va_runS (As := [.long (td_mn vX)]) (rest := []) ⟨hx, hb, hml, hown, hts⟩ (td_firstMiddle l dC dI cI cJ cZ (td_mn vX)) (va_cwS 1 hts (td_gS (td_i8 (List.mem_of_getElem? (i := 13) rfl)) (td_i8 (List.mem_of_getElem? (i := 14) rfl)) (td_i1 (List.mem_of_getElem? (i := 2) rfl)) (td_i8 (List.mem_of_getElem? (i := 15) rfl))) rfl rfl rfl (by decide +kernel) ⟨(Nat.le_of_ble_eq_true rfl), (Nat.le_of_ble_eq_true rfl)⟩) (td_pRS hK hZ hP [] rfl) rfl rfl hl.1 rfl (lv_room (Nat.le_of_ble_eq_true rfl)) dX0_firstColumn_7 ⟨Nat.zero_le _, Nat.zero_le _⟩) ?_
  exact td_rri hx hb hr rfl hlocks (rfl) dX0_firstColumn_10
set_option maxHeartbeats 4000000 in
set_option maxRecDepth 100000 in
/-- Shape.lastColumn -/
theorem td_lastColumn (l : Launch) (dC : Nat → ClassId) (dI : Nat → Nat → Nat) (cI cJ cZ : ClassId) (qS : Nat) (aX : Nat) (aY : Nat) (aR : Nat) (aL : Nat) (aW : Nat) (vX : Nat → Int64) (vY : Nat → Int64) (vR : Nat → Int64) (vL : Nat → Int64) (vW : Nat → Int64) : Met l yX0_lastColumn wsX0_lastColumn ({ frames := 3, cells := 0, slots := 0, locals := 69 }) (td_RP (dC, dI) vwCl (td_T cI cJ cZ) td_nl [(qS, .inr (0, [.ref aX, .ref aY, .ref aR, .ref aL, .ref aW])), (aX, .inl (cJ, 3, .inr (.inl vX))), (aY, .inl (cJ, 3, .inr (.inl vY))), (aR, .inl (cJ, 3, .inr (.inl vR))), (aL, .inl (cJ, 3, .inr (.inl vL))), (aW, .inl (cJ, 3, .inr (.inl vW)))] [.ref qS]) (vp_Si (fun r => r = td_lm (td_mxx vX))) 0 0 (fun _ => False) := by
  refine Met.ofW (cc := cX0_lastColumn) (maxL := 1) (ret := (some .int)) (by decide) rfl ?_
  intro p e s m args below meth c s₁ B hml hv
  obtain ⟨rfl, hP, hK, hZ⟩ := hv
  have hx := B.exec
  have hb := B.bytes
  have hr := B.returns
  have hts := atoms_spec (ws := wsX0_lastColumn) B.pre
  have hown : s.vm.findClass RX0 = some m.cls := findClass_of_methodNamed B.named
  have hlocks := B.notSynchronized
  have hP : va_P (dC, dI) vwCl [(qS, .inr (0, [.ref aX, .ref aY, .ref aR, .ref aL, .ref aW])), (aX, .inl (cJ, 3, .inr (.inl vX))), (aY, .inl (cJ, 3, .inr (.inl vY))), (aR, .inl (cJ, 3, .inr (.inl vR))), (aL, .inl (cJ, 3, .inr (.inl vL))), (aW, .inl (cJ, 3, .inr (.inl vW)))] s.heap := hP
  have hl := lv_entry ([.ref qS]) (n := 1) (Nat.le_of_ble_eq_true rfl)
  rw [lg_entry_eq]
  generalize (lg_sl ([.ref qS]) ++ List.replicate (1 - (lg_sl ([.ref qS])).length) Slot.unset).toArray = ls at hl ⊢
  have hl : lv_has ls 1 [(0, .ref qS)] := hl
  refine lv_aload_n hx hb dX0_lastColumn_0 rfl (lv_at hl 0 rfl) ?_
  refine va_get (D := (dC, dI)) (ci := 0) (v := .ref aX) (C := RX0) (T := TX0) (N := 5) hx hb hts td_fX0 hown hK hP 0 rfl rfl 0 (by decide) (hts (.fieldLink RX0 9 "TileDesk$Shape" "xs" "[J") (td_i1 (List.mem_of_getElem? (i := 21) rfl))) (fun _ h9 => h9) rfl dX0_lastColumn_1 ?_
  refine td_csl (va_runS (As := [.ref aX]) (rest := []) ⟨hx, hb, hml, hown, hts⟩ (td_most l dC dI cI cJ cZ aX vX) (va_cwS 1 hts (td_gS (td_i8 (List.mem_of_getElem? (i := 23) rfl)) (td_i9 (List.mem_of_getElem? (i := 0) rfl)) (td_i1 (List.mem_of_getElem? (i := 2) rfl)) (td_i9 (List.mem_of_getElem? (i := 1) rfl))) rfl rfl rfl (by decide +kernel) ⟨(Nat.le_of_ble_eq_true rfl), (Nat.le_of_ble_eq_true rfl)⟩) (td_pRS hK hZ hP [1] rfl) rfl rfl hl.1 rfl (lv_room (Nat.le_of_ble_eq_true rfl)) dX0_lastColumn_4 ⟨Nat.zero_le _, Nat.zero_le _⟩) ?_
  refine td_csi (va_runS (As := [.long (td_mxx vX)]) (rest := []) ⟨hx, hb, hml, hown, hts⟩ (td_lastMiddle l dC dI cI cJ cZ (td_mxx vX)) (va_cwS 1 hts (td_gS (td_i9 (List.mem_of_getElem? (i := 5) rfl)) (td_i9 (List.mem_of_getElem? (i := 6) rfl)) (td_i1 (List.mem_of_getElem? (i := 2) rfl)) (td_i9 (List.mem_of_getElem? (i := 7) rfl))) rfl rfl rfl (by decide +kernel) ⟨(Nat.le_of_ble_eq_true rfl), (Nat.le_of_ble_eq_true rfl)⟩) (td_pRS hK hZ hP [] rfl) rfl rfl hl.1 rfl (lv_room (Nat.le_of_ble_eq_true rfl)) dX0_lastColumn_7 ⟨Nat.zero_le _, Nat.zero_le _⟩) ?_
  exact td_rri hx hb hr rfl hlocks (rfl) dX0_lastColumn_10
set_option maxHeartbeats 4000000 in
set_option maxRecDepth 100000 in
/-- Shape.firstRow -/
theorem td_firstRow (l : Launch) (dC : Nat → ClassId) (dI : Nat → Nat → Nat) (cI cJ cZ : ClassId) (qS : Nat) (aX : Nat) (aY : Nat) (aR : Nat) (aL : Nat) (aW : Nat) (vX : Nat → Int64) (vY : Nat → Int64) (vR : Nat → Int64) (vL : Nat → Int64) (vW : Nat → Int64) : Met l yX0_firstRow wsX0_firstRow ({ frames := 3, cells := 0, slots := 0, locals := 69 }) (td_RP (dC, dI) vwCl (td_T cI cJ cZ) td_nl [(qS, .inr (0, [.ref aX, .ref aY, .ref aR, .ref aL, .ref aW])), (aX, .inl (cJ, 3, .inr (.inl vX))), (aY, .inl (cJ, 3, .inr (.inl vY))), (aR, .inl (cJ, 3, .inr (.inl vR))), (aL, .inl (cJ, 3, .inr (.inl vL))), (aW, .inl (cJ, 3, .inr (.inl vW)))] [.ref qS]) (vp_Si (fun r => r = td_fm (td_mn vY))) 0 0 (fun _ => False) := by
  refine Met.ofW (cc := cX0_firstRow) (maxL := 1) (ret := (some .int)) (by decide) rfl ?_
  intro p e s m args below meth c s₁ B hml hv
  obtain ⟨rfl, hP, hK, hZ⟩ := hv
  have hx := B.exec
  have hb := B.bytes
  have hr := B.returns
  have hts := atoms_spec (ws := wsX0_firstRow) B.pre
  have hown : s.vm.findClass RX0 = some m.cls := findClass_of_methodNamed B.named
  have hlocks := B.notSynchronized
  have hP : va_P (dC, dI) vwCl [(qS, .inr (0, [.ref aX, .ref aY, .ref aR, .ref aL, .ref aW])), (aX, .inl (cJ, 3, .inr (.inl vX))), (aY, .inl (cJ, 3, .inr (.inl vY))), (aR, .inl (cJ, 3, .inr (.inl vR))), (aL, .inl (cJ, 3, .inr (.inl vL))), (aW, .inl (cJ, 3, .inr (.inl vW)))] s.heap := hP
  have hl := lv_entry ([.ref qS]) (n := 1) (Nat.le_of_ble_eq_true rfl)
  rw [lg_entry_eq]
  generalize (lg_sl ([.ref qS]) ++ List.replicate (1 - (lg_sl ([.ref qS])).length) Slot.unset).toArray = ls at hl ⊢
  have hl : lv_has ls 1 [(0, .ref qS)] := hl
  refine lv_aload_n hx hb dX0_firstRow_0 rfl (lv_at hl 0 rfl) ?_
  refine va_get (D := (dC, dI)) (ci := 0) (v := .ref aY) (C := RX0) (T := TX0) (N := 5) hx hb hts td_fX0 hown hK hP 0 rfl rfl 1 (by decide) (hts (.fieldLink RX0 15 "TileDesk$Shape" "ys" "[J") (td_i1 (List.mem_of_getElem? (i := 22) rfl))) (fun _ h9 => h9) rfl dX0_firstRow_1 ?_
  refine td_csl (va_runS (As := [.ref aY]) (rest := []) ⟨hx, hb, hml, hown, hts⟩ (td_least l dC dI cI cJ cZ aY vY) (va_cwS 1 hts (td_gS (td_i8 (List.mem_of_getElem? (i := 7) rfl)) (td_i8 (List.mem_of_getElem? (i := 8) rfl)) (td_i1 (List.mem_of_getElem? (i := 2) rfl)) (td_i8 (List.mem_of_getElem? (i := 9) rfl))) rfl rfl rfl (by decide +kernel) ⟨(Nat.le_of_ble_eq_true rfl), (Nat.le_of_ble_eq_true rfl)⟩) (td_pRS hK hZ hP [2] rfl) rfl rfl hl.1 rfl (lv_room (Nat.le_of_ble_eq_true rfl)) dX0_firstRow_4 ⟨Nat.zero_le _, Nat.zero_le _⟩) ?_
  refine td_csi (va_runS (As := [.long (td_mn vY)]) (rest := []) ⟨hx, hb, hml, hown, hts⟩ (td_firstMiddle l dC dI cI cJ cZ (td_mn vY)) (va_cwS 1 hts (td_gS (td_i8 (List.mem_of_getElem? (i := 13) rfl)) (td_i8 (List.mem_of_getElem? (i := 14) rfl)) (td_i1 (List.mem_of_getElem? (i := 2) rfl)) (td_i8 (List.mem_of_getElem? (i := 15) rfl))) rfl rfl rfl (by decide +kernel) ⟨(Nat.le_of_ble_eq_true rfl), (Nat.le_of_ble_eq_true rfl)⟩) (td_pRS hK hZ hP [] rfl) rfl rfl hl.1 rfl (lv_room (Nat.le_of_ble_eq_true rfl)) dX0_firstRow_7 ⟨Nat.zero_le _, Nat.zero_le _⟩) ?_
  exact td_rri hx hb hr rfl hlocks (rfl) dX0_firstRow_10
set_option maxHeartbeats 4000000 in
set_option maxRecDepth 100000 in
/-- Shape.lastRow -/
theorem td_lastRow (l : Launch) (dC : Nat → ClassId) (dI : Nat → Nat → Nat) (cI cJ cZ : ClassId) (qS : Nat) (aX : Nat) (aY : Nat) (aR : Nat) (aL : Nat) (aW : Nat) (vX : Nat → Int64) (vY : Nat → Int64) (vR : Nat → Int64) (vL : Nat → Int64) (vW : Nat → Int64) : Met l yX0_lastRow wsX0_lastRow ({ frames := 3, cells := 0, slots := 0, locals := 69 }) (td_RP (dC, dI) vwCl (td_T cI cJ cZ) td_nl [(qS, .inr (0, [.ref aX, .ref aY, .ref aR, .ref aL, .ref aW])), (aX, .inl (cJ, 3, .inr (.inl vX))), (aY, .inl (cJ, 3, .inr (.inl vY))), (aR, .inl (cJ, 3, .inr (.inl vR))), (aL, .inl (cJ, 3, .inr (.inl vL))), (aW, .inl (cJ, 3, .inr (.inl vW)))] [.ref qS]) (vp_Si (fun r => r = td_lm (td_mxx vY))) 0 0 (fun _ => False) := by
  refine Met.ofW (cc := cX0_lastRow) (maxL := 1) (ret := (some .int)) (by decide) rfl ?_
  intro p e s m args below meth c s₁ B hml hv
  obtain ⟨rfl, hP, hK, hZ⟩ := hv
  have hx := B.exec
  have hb := B.bytes
  have hr := B.returns
  have hts := atoms_spec (ws := wsX0_lastRow) B.pre
  have hown : s.vm.findClass RX0 = some m.cls := findClass_of_methodNamed B.named
  have hlocks := B.notSynchronized
  have hP : va_P (dC, dI) vwCl [(qS, .inr (0, [.ref aX, .ref aY, .ref aR, .ref aL, .ref aW])), (aX, .inl (cJ, 3, .inr (.inl vX))), (aY, .inl (cJ, 3, .inr (.inl vY))), (aR, .inl (cJ, 3, .inr (.inl vR))), (aL, .inl (cJ, 3, .inr (.inl vL))), (aW, .inl (cJ, 3, .inr (.inl vW)))] s.heap := hP
  have hl := lv_entry ([.ref qS]) (n := 1) (Nat.le_of_ble_eq_true rfl)
  rw [lg_entry_eq]
  generalize (lg_sl ([.ref qS]) ++ List.replicate (1 - (lg_sl ([.ref qS])).length) Slot.unset).toArray = ls at hl ⊢
  have hl : lv_has ls 1 [(0, .ref qS)] := hl
  refine lv_aload_n hx hb dX0_lastRow_0 rfl (lv_at hl 0 rfl) ?_
  refine va_get (D := (dC, dI)) (ci := 0) (v := .ref aY) (C := RX0) (T := TX0) (N := 5) hx hb hts td_fX0 hown hK hP 0 rfl rfl 1 (by decide) (hts (.fieldLink RX0 15 "TileDesk$Shape" "ys" "[J") (td_i1 (List.mem_of_getElem? (i := 22) rfl))) (fun _ h9 => h9) rfl dX0_lastRow_1 ?_
  refine td_csl (va_runS (As := [.ref aY]) (rest := []) ⟨hx, hb, hml, hown, hts⟩ (td_most l dC dI cI cJ cZ aY vY) (va_cwS 1 hts (td_gS (td_i8 (List.mem_of_getElem? (i := 23) rfl)) (td_i9 (List.mem_of_getElem? (i := 0) rfl)) (td_i1 (List.mem_of_getElem? (i := 2) rfl)) (td_i9 (List.mem_of_getElem? (i := 1) rfl))) rfl rfl rfl (by decide +kernel) ⟨(Nat.le_of_ble_eq_true rfl), (Nat.le_of_ble_eq_true rfl)⟩) (td_pRS hK hZ hP [2] rfl) rfl rfl hl.1 rfl (lv_room (Nat.le_of_ble_eq_true rfl)) dX0_lastRow_4 ⟨Nat.zero_le _, Nat.zero_le _⟩) ?_
  refine td_csi (va_runS (As := [.long (td_mxx vY)]) (rest := []) ⟨hx, hb, hml, hown, hts⟩ (td_lastMiddle l dC dI cI cJ cZ (td_mxx vY)) (va_cwS 1 hts (td_gS (td_i9 (List.mem_of_getElem? (i := 5) rfl)) (td_i9 (List.mem_of_getElem? (i := 6) rfl)) (td_i1 (List.mem_of_getElem? (i := 2) rfl)) (td_i9 (List.mem_of_getElem? (i := 7) rfl))) rfl rfl rfl (by decide +kernel) ⟨(Nat.le_of_ble_eq_true rfl), (Nat.le_of_ble_eq_true rfl)⟩) (td_pRS hK hZ hP [] rfl) rfl rfl hl.1 rfl (lv_room (Nat.le_of_ble_eq_true rfl)) dX0_lastRow_7 ⟨Nat.zero_le _, Nat.zero_le _⟩) ?_
  exact td_rri hx hb hr rfl hlocks (rfl) dX0_lastRow_10
