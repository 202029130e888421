set_option maxHeartbeats 4000000 in
set_option maxRecDepth 100000 in
/-- the reference() -/
theorem tm_init (l : Launch) (dC : Nat → ClassId) (dI : Nat → Nat → Nat) (cI cJ cZ : ClassId) (sz : Nat) (qM : Nat) (v1 : Int32) (v2 : Int32) (w : Nat) (h : Nat) (e1 : (if 8 ≤ v1 then (if v1 ≤ 48 then v1 else 48) else 8) = nI w) (e2 : (if 8 ≤ v2 then (if v2 ≤ 48 then v2 else 48) else 8) = nI h) : Met l yX4_init wsX4_init ({ frames := 1, cells := 4, slots := 11824, locals := 12 }) (td_WP (dC, dI) vwCl (td_T cI cJ cZ) td_nl [(qM, .inr (4, [.int 0, .int 0, .int 0, .int 0, .null, .int 0, .int 0, .int 0, .null, .null, .null]))] sz [.ref qM, .int v1, .int v2]) (va_Qv (S := Nat × Nat × Nat × Nat) (fun u => True) (td_B (dC, dI) vwCl (td_T cI cJ cZ) (va_A [(qM, .inr (4, [.int 0, .int 0, .int 0, .int 0, .null, .int 0, .int 0, .int 0, .null, .null, .null]))] sz) (fun (u : Nat × Nat × Nat × Nat) => [(qM, .inr (4, [.int 0, .int (nI w), .int (nI h), .int 0, .ref u.1, .int 0, .int 0, .int 0, .ref u.2.1, .ref u.2.2.1, .ref u.2.2.2])), (u.1, .inl (cI, 7180, .inl (upd (upd (upd (fun _ => 0) 7170 1) 7174 1) 7178 1))), (u.2.1, .inl (cI, 2304, .inl (fun _ => 0))), (u.2.2.1, .inl (cI, 2304, .inl (fun _ => 0))), (u.2.2.2, .inl (cZ, 36, .inl (fun _ => 0)))])) (va_A [(qM, .inr (4, [.int 0, .int 0, .int 0, .int 0, .null, .int 0, .int 0, .int 0, .null, .null, .null]))] sz)) 4 11824 (va_A [(qM, .inr (4, [.int 0, .int 0, .int 0, .int 0, .null, .int 0, .int 0, .int 0, .null, .null, .null]))] sz) := by
  refine Met.ofW (cc := cX4_init) (maxL := 4) (ret := none) (by decide) rfl ?_
  intro p e s m args below meth c s₁ B hml hv
  obtain ⟨rfl, hsz, hP, hK, hZ, hD0⟩ := hv
  have hx := B.exec
  have hb := B.bytes
  have hr := B.returns
  have hts := atoms_spec (ws := wsX4_init) B.pre
  have hown : s.vm.findClass RX4 = some m.cls := findClass_of_methodNamed B.named
  have hlocks := B.notSynchronized
  have hin : meth.name = "<init>" := (name_of_methodNamed B.named B.method).1
  subst hsz
  have hD := hD0.self (sz := s.heap.size)
  generalize hAe : va_A [(qM, .inr (4, [.int 0, .int 0, .int 0, .int 0, .null, .int 0, .int 0, .int 0, .null, .null, .null]))] s.heap.size = A at hD ⊢
  have hA : ∀ q : Nat, s.heap.size ≤ q → A q := fun q h => by rw [← hAe]; exact Or.inr h
  have hS : va_S A s.heap s.heap [] := va_S.rf
  have hP : va_P (dC, dI) vwCl [(qM, .inr (4, [.int 0, .int 0, .int 0, .int 0, .null, .int 0, .int 0, .int 0, .null, .null, .null]))] s.heap := hP
  have hl := lv_entry ([.ref qM, .int v1, .int v2]) (n := 4) (Nat.le_of_ble_eq_true rfl)
  rw [lg_entry_eq]
  generalize (lg_sl ([.ref qM, .int v1, .int v2]) ++ List.replicate (4 - (lg_sl ([.ref qM, .int v1, .int v2])).length) Slot.unset).toArray = ls at hl ⊢
  have hl : lv_has ls 4 [(0, .ref qM), (1, .int v1), (2, .int v2)] := hl
  refine lv_aload_n hx hb dX4_init_0 rfl (lv_at hl 0 rfl) ?_
  refine W.objInit hx hb hown (hts (.methodLink RX4 1 objectInit) (td_i11 (List.mem_of_getElem? (i := 22) rfl))) (hts (.instanceMethod objectInit) (td_i1 (List.mem_of_getElem? (i := 14) rfl))) (hts _ (td_i1 (List.mem_of_getElem? (i := 15) rfl))) rfl (by rw [hml]; exact hl.1) rfl dX4_init_1 (Nat.le_of_ble_eq_true rfl) (Nat.le_of_ble_eq_true rfl) ?_
  refine W.eq (g2 := F0 m 4 ls []) rfl ?_
  refine lv_aload_n hx hb dX4_init_4 rfl (lv_at hl 0 rfl) ?_
  refine lv_sipush (v := 7180) hx hb dX4_init_5 (by decide) ?_
  refine td_newa (a0 := (7180, .inl (fun _ => 0))) (atype := .int) 0 hx hb (hts (.arrayClass .int) (td_i0 (List.mem_of_getElem? (i := 1) rfl))) rfl hK hP hD hS hA rfl (td_raI s) (fun _ => rfl) rfl (by decide) (by decide) (Nat.le_of_ble_eq_true rfl) (Nat.le_of_ble_eq_true rfl) dX4_init_8 (fun zP H hP hD hS => ?_)
  have hP : va_P (dC, dI) vwCl [(qM, .inr (4, [.int 0, .int 0, .int 0, .int 0, .null, .int 0, .int 0, .int 0, .null, .null, .null])), (zP, .inl (cI, 7180, .inl (fun _ => 0)))] H := hP
  have hD : va_D A [(qM, .inr (4, [.int 0, .int 0, .int 0, .int 0, .null, .int 0, .int 0, .int 0, .null, .null, .null])), (zP, .inl (cI, 7180, .inl (fun _ => 0)))] := hD
  refine W.widen (k := 1) (n := 7180) (by omega) (by omega) ?_
  refine va_putF (D := (dC, dI)) (ci := 4) (v := .ref zP) (ty := .array .int) (C := RX4) (T := TX4) (N := 11) hx hb hts td_fX4 tyX4 tyX4_ok nmX4 hown hK hP hD hS 0 rfl rfl 4 (by decide) (hts (.fieldLink RX4 7 "TileDeskModel" "pieces" "[I") (td_i12 (List.mem_of_getElem? (i := 3) rfl))) (fun _ h9 => h9) rfl hin rfl (by decide +kernel) rfl rfl (Nat.le_of_ble_eq_true rfl) dX4_init_10 (fun H locs hP hD hS => ?_)
  have hP : va_P (dC, dI) vwCl [(qM, .inr (4, [.int 0, .int 0, .int 0, .int 0, .ref zP, .int 0, .int 0, .int 0, .null, .null, .null])), (zP, .inl (cI, 7180, .inl (fun _ => 0)))] H := hP
  have hD : va_D A [(qM, .inr (4, [.int 0, .int 0, .int 0, .int 0, .ref zP, .int 0, .int 0, .int 0, .null, .null, .null])), (zP, .inl (cI, 7180, .inl (fun _ => 0)))] := hD
  refine lv_aload_n hx hb dX4_init_13 rfl (lv_at hl 0 rfl) ?_
  refine lv_sipush (v := 2304) hx hb dX4_init_14 (by decide) ?_
  refine td_newa (a0 := (2304, .inl (fun _ => 0))) (atype := .int) 0 hx hb (hts (.arrayClass .int) (td_i0 (List.mem_of_getElem? (i := 1) rfl))) rfl hK hP hD hS hA rfl (td_raI s) (fun _ => rfl) rfl (by decide) (by decide) (Nat.le_of_ble_eq_true rfl) (Nat.le_of_ble_eq_true rfl) dX4_init_17 (fun zC H hP hD hS => ?_)
  have hP : va_P (dC, dI) vwCl [(qM, .inr (4, [.int 0, .int 0, .int 0, .int 0, .ref zP, .int 0, .int 0, .int 0, .null, .null, .null])), (zP, .inl (cI, 7180, .inl (fun _ => 0))), (zC, .inl (cI, 2304, .inl (fun _ => 0)))] H := hP
  have hD : va_D A [(qM, .inr (4, [.int 0, .int 0, .int 0, .int 0, .ref zP, .int 0, .int 0, .int 0, .null, .null, .null])), (zP, .inl (cI, 7180, .inl (fun _ => 0))), (zC, .inl (cI, 2304, .inl (fun _ => 0)))] := hD
  refine W.widen (k := 2) (n := 9484) (by omega) (by omega) ?_
  refine va_putF (D := (dC, dI)) (ci := 4) (v := .ref zC) (ty := .array .int) (C := RX4) (T := TX4) (N := 11) hx hb hts td_fX4 tyX4 tyX4_ok nmX4 hown hK hP hD hS 0 rfl rfl 8 (by decide) (hts (.fieldLink RX4 13 "TileDeskModel" "colours" "[I") (td_i12 (List.mem_of_getElem? (i := 7) rfl))) (fun _ h9 => h9) rfl hin rfl (by decide +kernel) rfl rfl (Nat.le_of_ble_eq_true rfl) dX4_init_19 (fun H locs hP hD hS => ?_)
  have hP : va_P (dC, dI) vwCl [(qM, .inr (4, [.int 0, .int 0, .int 0, .int 0, .ref zP, .int 0, .int 0, .int 0, .ref zC, .null, .null])), (zP, .inl (cI, 7180, .inl (fun _ => 0))), (zC, .inl (cI, 2304, .inl (fun _ => 0)))] H := hP
  have hD : va_D A [(qM, .inr (4, [.int 0, .int 0, .int 0, .int 0, .ref zP, .int 0, .int 0, .int 0, .ref zC, .null, .null])), (zP, .inl (cI, 7180, .inl (fun _ => 0))), (zC, .inl (cI, 2304, .inl (fun _ => 0)))] := hD
  refine lv_aload_n hx hb dX4_init_22 rfl (lv_at hl 0 rfl) ?_
  refine lv_sipush (v := 2304) hx hb dX4_init_23 (by decide) ?_
  refine td_newa (a0 := (2304, .inl (fun _ => 0))) (atype := .int) 0 hx hb (hts (.arrayClass .int) (td_i0 (List.mem_of_getElem? (i := 1) rfl))) rfl hK hP hD hS hA rfl (td_raI s) (fun _ => rfl) rfl (by decide) (by decide) (Nat.le_of_ble_eq_true rfl) (Nat.le_of_ble_eq_true rfl) dX4_init_26 (fun zN H hP hD hS => ?_)
  have hP : va_P (dC, dI) vwCl [(qM, .inr (4, [.int 0, .int 0, .int 0, .int 0, .ref zP, .int 0, .int 0, .int 0, .ref zC, .null, .null])), (zP, .inl (cI, 7180, .inl (fun _ => 0))), (zC, .inl (cI, 2304, .inl (fun _ => 0))), (zN, .inl (cI, 2304, .inl (fun _ => 0)))] H := hP
  have hD : va_D A [(qM, .inr (4, [.int 0, .int 0, .int 0, .int 0, .ref zP, .int 0, .int 0, .int 0, .ref zC, .null, .null])), (zP, .inl (cI, 7180, .inl (fun _ => 0))), (zC, .inl (cI, 2304, .inl (fun _ => 0))), (zN, .inl (cI, 2304, .inl (fun _ => 0)))] := hD
  refine W.widen (k := 3) (n := 11788) (by omega) (by omega) ?_
  refine va_putF (D := (dC, dI)) (ci := 4) (v := .ref zN) (ty := .array .int) (C := RX4) (T := TX4) (N := 11) hx hb hts td_fX4 tyX4 tyX4_ok nmX4 hown hK hP hD hS 0 rfl rfl 9 (by decide) (hts (.fieldLink RX4 16 "TileDeskModel" "nears" "[I") (td_i12 (List.mem_of_getElem? (i := 8) rfl))) (fun _ h9 => h9) rfl hin rfl (by decide +kernel) rfl rfl (Nat.le_of_ble_eq_true rfl) dX4_init_28 (fun H locs hP hD hS => ?_)
  have hP : va_P (dC, dI) vwCl [(qM, .inr (4, [.int 0, .int 0, .int 0, .int 0, .ref zP, .int 0, .int 0, .int 0, .ref zC, .ref zN, .null])), (zP, .inl (cI, 7180, .inl (fun _ => 0))), (zC, .inl (cI, 2304, .inl (fun _ => 0))), (zN, .inl (cI, 2304, .inl (fun _ => 0)))] H := hP
  have hD : va_D A [(qM, .inr (4, [.int 0, .int 0, .int 0, .int 0, .ref zP, .int 0, .int 0, .int 0, .ref zC, .ref zN, .null])), (zP, .inl (cI, 7180, .inl (fun _ => 0))), (zC, .inl (cI, 2304, .inl (fun _ => 0))), (zN, .inl (cI, 2304, .inl (fun _ => 0)))] := hD
  refine lv_aload_n hx hb dX4_init_31 rfl (lv_at hl 0 rfl) ?_
  refine lv_bipush (v := 36) hx hb dX4_init_32 (by decide) ?_
  refine td_newa (a0 := (36, .inl (fun _ => 0))) (atype := .boolean) 2 hx hb (hts (.arrayClass .boolean) (td_i0 (List.mem_of_getElem? (i := 2) rfl))) rfl hK hP hD hS hA rfl (td_raZ s) (fun _ => rfl) rfl (by decide) (by decide) (Nat.le_of_ble_eq_true rfl) (Nat.le_of_ble_eq_true rfl) dX4_init_34 (fun zD H hP hD hS => ?_)
  have hP : va_P (dC, dI) vwCl [(qM, .inr (4, [.int 0, .int 0, .int 0, .int 0, .ref zP, .int 0, .int 0, .int 0, .ref zC, .ref zN, .null])), (zP, .inl (cI, 7180, .inl (fun _ => 0))), (zC, .inl (cI, 2304, .inl (fun _ => 0))), (zN, .inl (cI, 2304, .inl (fun _ => 0))), (zD, .inl (cZ, 36, .inl (fun _ => 0)))] H := hP
  have hD : va_D A [(qM, .inr (4, [.int 0, .int 0, .int 0, .int 0, .ref zP, .int 0, .int 0, .int 0, .ref zC, .ref zN, .null])), (zP, .inl (cI, 7180, .inl (fun _ => 0))), (zC, .inl (cI, 2304, .inl (fun _ => 0))), (zN, .inl (cI, 2304, .inl (fun _ => 0))), (zD, .inl (cZ, 36, .inl (fun _ => 0)))] := hD
  refine W.widen (k := 4) (n := 11824) (by omega) (by omega) ?_
  refine va_putF (D := (dC, dI)) (ci := 4) (v := .ref zD) (ty := .array .boolean) (C := RX4) (T := TX4) (N := 11) hx hb hts td_fX4 tyX4 tyX4_ok nmX4 hown hK hP hD hS 0 rfl rfl 10 (by decide) (hts (.fieldLink RX4 19 "TileDeskModel" "done" "[Z") (td_i12 (List.mem_of_getElem? (i := 9) rfl))) (fun _ h9 => h9) rfl hin rfl (by decide +kernel) rfl rfl (Nat.le_of_ble_eq_true rfl) dX4_init_36 (fun H locs hP hD hS => ?_)
  have hP : va_P (dC, dI) vwCl [(qM, .inr (4, [.int 0, .int 0, .int 0, .int 0, .ref zP, .int 0, .int 0, .int 0, .ref zC, .ref zN, .ref zD])), (zP, .inl (cI, 7180, .inl (fun _ => 0))), (zC, .inl (cI, 2304, .inl (fun _ => 0))), (zN, .inl (cI, 2304, .inl (fun _ => 0))), (zD, .inl (cZ, 36, .inl (fun _ => 0)))] H := hP
  have hD : va_D A [(qM, .inr (4, [.int 0, .int 0, .int 0, .int 0, .ref zP, .int 0, .int 0, .int 0, .ref zC, .ref zN, .ref zD])), (zP, .inl (cI, 7180, .inl (fun _ => 0))), (zC, .inl (cI, 2304, .inl (fun _ => 0))), (zN, .inl (cI, 2304, .inl (fun _ => 0))), (zD, .inl (cZ, 36, .inl (fun _ => 0)))] := hD
  refine lv_aload_n hx hb dX4_init_39 rfl (lv_at hl 0 rfl) ?_
  refine lv_iload_n hx hb dX4_init_40 rfl (lv_at hl 1 rfl) ?_
  refine lv_bipush (v := 8) hx hb dX4_init_41 (by decide) ?_
  refine lv_icmp_ge (tgt := 51) hx hb dX4_init_43 (by decide) (fun c43 => ?_) (fun c43 => ?_)
  · refine lv_iload_n hx hb dX4_init_51 rfl (lv_at hl 1 rfl) ?_
    refine lv_bipush (v := 48) hx hb dX4_init_52 (by decide) ?_
    refine lv_icmp_le (tgt := 62) hx hb dX4_init_54 (by decide) (fun c54 => ?_) (fun c54 => ?_)
    · refine lv_iload_n hx hb dX4_init_62 rfl (lv_at hl 1 rfl) ?_
      refine td_ti (nI w) (by rw [← e1, if_pos c43, if_pos c54]) ?_
      refine va_putF (D := (dC, dI)) (ci := 4) (v := .int (nI w)) (ty := .int) (C := RX4) (T := TX4) (N := 11) hx hb hts td_fX4 tyX4 tyX4_ok nmX4 hown hK hP hD hS 0 rfl rfl 1 (by decide) (hts (.fieldLink RX4 23 "TileDeskModel" "width" "I") (td_i12 (List.mem_of_getElem? (i := 0) rfl))) (fun _ h9 => h9) rfl hin rfl (by decide +kernel) rfl rfl (Nat.le_of_ble_eq_true rfl) dX4_init_63 (fun H locs hP hD hS => ?_)
      have hP : va_P (dC, dI) vwCl [(qM, .inr (4, [.int 0, .int (nI w), .int 0, .int 0, .ref zP, .int 0, .int 0, .int 0, .ref zC, .ref zN, .ref zD])), (zP, .inl (cI, 7180, .inl (fun _ => 0))), (zC, .inl (cI, 2304, .inl (fun _ => 0))), (zN, .inl (cI, 2304, .inl (fun _ => 0))), (zD, .inl (cZ, 36, .inl (fun _ => 0)))] H := hP
      have hD : va_D A [(qM, .inr (4, [.int 0, .int (nI w), .int 0, .int 0, .ref zP, .int 0, .int 0, .int 0, .ref zC, .ref zN, .ref zD])), (zP, .inl (cI, 7180, .inl (fun _ => 0))), (zC, .inl (cI, 2304, .inl (fun _ => 0))), (zN, .inl (cI, 2304, .inl (fun _ => 0))), (zD, .inl (cZ, 36, .inl (fun _ => 0)))] := hD
      refine lv_aload_n hx hb dX4_init_66 rfl (lv_at hl 0 rfl) ?_
      refine lv_iload_n hx hb dX4_init_67 rfl (lv_at hl 2 rfl) ?_
      refine lv_bipush (v := 8) hx hb dX4_init_68 (by decide) ?_
      refine lv_icmp_ge (tgt := 78) hx hb dX4_init_70 (by decide) (fun c70 => ?_) (fun c70 => ?_)
      · refine lv_iload_n hx hb dX4_init_78 rfl (lv_at hl 2 rfl) ?_
        refine lv_bipush (v := 48) hx hb dX4_init_79 (by decide) ?_
        refine lv_icmp_le (tgt := 89) hx hb dX4_init_81 (by decide) (fun c81 => ?_) (fun c81 => ?_)
        · refine lv_iload_n hx hb dX4_init_89 rfl (lv_at hl 2 rfl) ?_
          refine td_ti (nI h) (by rw [← e2, if_pos c70, if_pos c81]) ?_
          refine va_putF (D := (dC, dI)) (ci := 4) (v := .int (nI h)) (ty := .int) (C := RX4) (T := TX4) (N := 11) hx hb hts td_fX4 tyX4 tyX4_ok nmX4 hown hK hP hD hS 0 rfl rfl 2 (by decide) (hts (.fieldLink RX4 27 "TileDeskModel" "height" "I") (td_i12 (List.mem_of_getElem? (i := 1) rfl))) (fun _ h9 => h9) rfl hin rfl (by decide +kernel) rfl rfl (Nat.le_of_ble_eq_true rfl) dX4_init_90 (fun H locs hP hD hS => ?_)
          have hP : va_P (dC, dI) vwCl [(qM, .inr (4, [.int 0, .int (nI w), .int (nI h), .int 0, .ref zP, .int 0, .int 0, .int 0, .ref zC, .ref zN, .ref zD])), (zP, .inl (cI, 7180, .inl (fun _ => 0))), (zC, .inl (cI, 2304, .inl (fun _ => 0))), (zN, .inl (cI, 2304, .inl (fun _ => 0))), (zD, .inl (cZ, 36, .inl (fun _ => 0)))] H := hP
          have hD : va_D A [(qM, .inr (4, [.int 0, .int (nI w), .int (nI h), .int 0, .ref zP, .int 0, .int 0, .int 0, .ref zC, .ref zN, .ref zD])), (zP, .inl (cI, 7180, .inl (fun _ => 0))), (zC, .inl (cI, 2304, .inl (fun _ => 0))), (zN, .inl (cI, 2304, .inl (fun _ => 0))), (zD, .inl (cZ, 36, .inl (fun _ => 0)))] := hD
          refine lv_iconst (v := 0) hx hb dX4_init_93 (by decide) ?_
          refine lv_istore_n (lv' := [(3, .int 0), (0, .ref qM), (1, .int v1), (2, .int v2)]) hx hb dX4_init_94 rfl hl (by decide) rfl (fun ls hl => ?_)
          refine lv_iload_n hx hb dX4_init_95 rfl (lv_at hl 0 rfl) ?_
          refine lv_iconst (v := 3) hx hb dX4_init_96 (by decide) ?_
          refine lv_icmp_ge (tgt := 121) hx hb dX4_init_97 (by decide) (fun c97_1 => ?_) (fun c97_1 => ?_)
          · exact absurd c97_1 (by decide)
          · refine lv_aload_n hx hb dX4_init_100 rfl (lv_at hl 1 rfl) ?_
            refine va_get (D := (dC, dI)) (ci := 4) (v := .ref zP) (C := RX4) (T := TX4) (N := 11) hx hb hts td_fX4 hown hK hP 0 rfl rfl 4 (by decide) (hts (.fieldLink RX4 7 "TileDeskModel" "pieces" "[I") (td_i12 (List.mem_of_getElem? (i := 3) rfl))) (fun _ h9 => h9) rfl dX4_init_101 ?_
            refine lv_sipush (v := 7168) hx hb dX4_init_104 (by decide) ?_
            refine lv_iconst (v := 4) hx hb dX4_init_107 (by decide) ?_
            refine lv_iload_n hx hb dX4_init_108 rfl (lv_at hl 0 rfl) ?_
            refine lv_imul hx hb dX4_init_109 ?_
            refine td_ti (nI (0)) (pk_mul 4 0) ?_
            refine lv_iadd hx hb dX4_init_110 ?_
            refine td_ti (nI (7168)) (nI_add 7168 0) ?_
            refine lv_iconst (v := 2) hx hb dX4_init_111 (by decide) ?_
            refine lv_iadd hx hb dX4_init_112 ?_
            refine td_ti (nI (7170)) (nI_add 7168 2) ?_
            refine lv_iconst (v := 1) hx hb dX4_init_113 (by decide) ?_
            refine td_iast hx hb hK hP hD hS 1 0 7170 rfl rfl rfl (by decide) (by decide) dX4_init_114 (fun H locs hP hD hS => ?_)
            have hP : va_P (dC, dI) vwCl [(qM, .inr (4, [.int 0, .int (nI w), .int (nI h), .int 0, .ref zP, .int 0, .int 0, .int 0, .ref zC, .ref zN, .ref zD])), (zP, .inl (cI, 7180, .inl (upd (fun _ => 0) 7170 1))), (zC, .inl (cI, 2304, .inl (fun _ => 0))), (zN, .inl (cI, 2304, .inl (fun _ => 0))), (zD, .inl (cZ, 36, .inl (fun _ => 0)))] H := hP
            have hD : va_D A [(qM, .inr (4, [.int 0, .int (nI w), .int (nI h), .int 0, .ref zP, .int 0, .int 0, .int 0, .ref zC, .ref zN, .ref zD])), (zP, .inl (cI, 7180, .inl (upd (fun _ => 0) 7170 1))), (zC, .inl (cI, 2304, .inl (fun _ => 0))), (zN, .inl (cI, 2304, .inl (fun _ => 0))), (zD, .inl (cZ, 36, .inl (fun _ => 0)))] := hD
            refine lv_iinc (v := nI 1) (lv' := [(3, .int (nI 1)), (0, .ref qM), (1, .int v1), (2, .int v2)]) hx hb dX4_init_115 hl (k := 0) rfl (nI_add 0 1) (by decide) rfl (fun ls hl => ?_)
            refine lv_goto (tgt := 95) hx hb dX4_init_118 (by decide) ?_
            refine lv_iload_n hx hb dX4_init_95 rfl (lv_at hl 0 rfl) ?_
            refine lv_iconst (v := 3) hx hb dX4_init_96 (by decide) ?_
            refine lv_icmp_ge (tgt := 121) hx hb dX4_init_97 (by decide) (fun c97_2 => ?_) (fun c97_2 => ?_)
            · exact absurd c97_2 (by decide)
            · refine lv_aload_n hx hb dX4_init_100 rfl (lv_at hl 1 rfl) ?_
              refine va_get (D := (dC, dI)) (ci := 4) (v := .ref zP) (C := RX4) (T := TX4) (N := 11) hx hb hts td_fX4 hown hK hP 0 rfl rfl 4 (by decide) (hts (.fieldLink RX4 7 "TileDeskModel" "pieces" "[I") (td_i12 (List.mem_of_getElem? (i := 3) rfl))) (fun _ h9 => h9) rfl dX4_init_101 ?_
              refine lv_sipush (v := 7168) hx hb dX4_init_104 (by decide) ?_
              refine lv_iconst (v := 4) hx hb dX4_init_107 (by decide) ?_
              refine lv_iload_n hx hb dX4_init_108 rfl (lv_at hl 0 rfl) ?_
              refine lv_imul hx hb dX4_init_109 ?_
              refine td_ti (nI (4)) (pk_mul 4 1) ?_
              refine lv_iadd hx hb dX4_init_110 ?_
              refine td_ti (nI (7172)) (nI_add 7168 4) ?_
              refine lv_iconst (v := 2) hx hb dX4_init_111 (by decide) ?_
              refine lv_iadd hx hb dX4_init_112 ?_
              refine td_ti (nI (7174)) (nI_add 7172 2) ?_
              refine lv_iconst (v := 1) hx hb dX4_init_113 (by decide) ?_
              refine td_iast hx hb hK hP hD hS 1 0 7174 rfl rfl rfl (by decide) (by decide) dX4_init_114 (fun H locs hP hD hS => ?_)
              have hP : va_P (dC, dI) vwCl [(qM, .inr (4, [.int 0, .int (nI w), .int (nI h), .int 0, .ref zP, .int 0, .int 0, .int 0, .ref zC, .ref zN, .ref zD])), (zP, .inl (cI, 7180, .inl (upd (upd (fun _ => 0) 7170 1) 7174 1))), (zC, .inl (cI, 2304, .inl (fun _ => 0))), (zN, .inl (cI, 2304, .inl (fun _ => 0))), (zD, .inl (cZ, 36, .inl (fun _ => 0)))] H := hP
              have hD : va_D A [(qM, .inr (4, [.int 0, .int (nI w), .int (nI h), .int 0, .ref zP, .int 0, .int 0, .int 0, .ref zC, .ref zN, .ref zD])), (zP, .inl (cI, 7180, .inl (upd (upd (fun _ => 0) 7170 1) 7174 1))), (zC, .inl (cI, 2304, .inl (fun _ => 0))), (zN, .inl (cI, 2304, .inl (fun _ => 0))), (zD, .inl (cZ, 36, .inl (fun _ => 0)))] := hD
              refine lv_iinc (v := nI 2) (lv' := [(3, .int (nI 2)), (0, .ref qM), (1, .int v1), (2, .int v2)]) hx hb dX4_init_115 hl (k := 0) rfl (nI_add 1 1) (by decide) rfl (fun ls hl => ?_)
              refine lv_goto (tgt := 95) hx hb dX4_init_118 (by decide) ?_
              refine lv_iload_n hx hb dX4_init_95 rfl (lv_at hl 0 rfl) ?_
              refine lv_iconst (v := 3) hx hb dX4_init_96 (by decide) ?_
              refine lv_icmp_ge (tgt := 121) hx hb dX4_init_97 (by decide) (fun c97_3 => ?_) (fun c97_3 => ?_)
              · exact absurd c97_3 (by decide)
              · refine lv_aload_n hx hb dX4_init_100 rfl (lv_at hl 1 rfl) ?_
                refine va_get (D := (dC, dI)) (ci := 4) (v := .ref zP) (C := RX4) (T := TX4) (N := 11) hx hb hts td_fX4 hown hK hP 0 rfl rfl 4 (by decide) (hts (.fieldLink RX4 7 "TileDeskModel" "pieces" "[I") (td_i12 (List.mem_of_getElem? (i := 3) rfl))) (fun _ h9 => h9) rfl dX4_init_101 ?_
                refine lv_sipush (v := 7168) hx hb dX4_init_104 (by decide) ?_
                refine lv_iconst (v := 4) hx hb dX4_init_107 (by decide) ?_
                refine lv_iload_n hx hb dX4_init_108 rfl (lv_at hl 0 rfl) ?_
                refine lv_imul hx hb dX4_init_109 ?_
                refine td_ti (nI (8)) (pk_mul 4 2) ?_
                refine lv_iadd hx hb dX4_init_110 ?_
                refine td_ti (nI (7176)) (nI_add 7168 8) ?_
                refine lv_iconst (v := 2) hx hb dX4_init_111 (by decide) ?_
                refine lv_iadd hx hb dX4_init_112 ?_
                refine td_ti (nI (7178)) (nI_add 7176 2) ?_
                refine lv_iconst (v := 1) hx hb dX4_init_113 (by decide) ?_
                refine td_iast hx hb hK hP hD hS 1 0 7178 rfl rfl rfl (by decide) (by decide) dX4_init_114 (fun H locs hP hD hS => ?_)
                have hP : va_P (dC, dI) vwCl [(qM, .inr (4, [.int 0, .int (nI w), .int (nI h), .int 0, .ref zP, .int 0, .int 0, .int 0, .ref zC, .ref zN, .ref zD])), (zP, .inl (cI, 7180, .inl (upd (upd (upd (fun _ => 0) 7170 1) 7174 1) 7178 1))), (zC, .inl (cI, 2304, .inl (fun _ => 0))), (zN, .inl (cI, 2304, .inl (fun _ => 0))), (zD, .inl (cZ, 36, .inl (fun _ => 0)))] H := hP
                have hD : va_D A [(qM, .inr (4, [.int 0, .int (nI w), .int (nI h), .int 0, .ref zP, .int 0, .int 0, .int 0, .ref zC, .ref zN, .ref zD])), (zP, .inl (cI, 7180, .inl (upd (upd (upd (fun _ => 0) 7170 1) 7174 1) 7178 1))), (zC, .inl (cI, 2304, .inl (fun _ => 0))), (zN, .inl (cI, 2304, .inl (fun _ => 0))), (zD, .inl (cZ, 36, .inl (fun _ => 0)))] := hD
                refine lv_iinc (v := nI 3) (lv' := [(3, .int (nI 3)), (0, .ref qM), (1, .int v1), (2, .int v2)]) hx hb dX4_init_115 hl (k := 0) rfl (nI_add 2 1) (by decide) rfl (fun ls hl => ?_)
                refine lv_goto (tgt := 95) hx hb dX4_init_118 (by decide) ?_
                refine lv_iload_n hx hb dX4_init_95 rfl (lv_at hl 0 rfl) ?_
                refine lv_iconst (v := 3) hx hb dX4_init_96 (by decide) ?_
                refine lv_icmp_ge (tgt := 121) hx hb dX4_init_97 (by decide) (fun c97_4 => ?_) (fun c97_4 => ?_)
                · have hP9 := hP.sub (ws' := [(qM, .inr (4, [.int 0, .int (nI w), .int (nI h), .int 0, .ref zP, .int 0, .int 0, .int 0, .ref zC, .ref zN, .ref zD])), (zP, .inl (cI, 7180, .inl (upd (upd (upd (fun _ => 0) 7170 1) 7174 1) 7178 1))), (zC, .inl (cI, 2304, .inl (fun _ => 0))), (zN, .inl (cI, 2304, .inl (fun _ => 0))), (zD, .inl (cZ, 36, .inl (fun _ => 0)))]) [0, 1, 2, 3, 4] rfl
                  have hD9 := hD.sub (ws' := [(qM, .inr (4, [.int 0, .int (nI w), .int (nI h), .int 0, .ref zP, .int 0, .int 0, .int 0, .ref zC, .ref zN, .ref zD])), (zP, .inl (cI, 7180, .inl (upd (upd (upd (fun _ => 0) 7170 1) 7174 1) 7178 1))), (zC, .inl (cI, 2304, .inl (fun _ => 0))), (zN, .inl (cI, 2304, .inl (fun _ => 0))), (zD, .inl (cZ, 36, .inl (fun _ => 0)))]) [0, 1, 2, 3, 4] (by decide) rfl
                  exact td_rwv (zP, zC, zN, zD) hx hb hr hlocks hK (trivial) hP9 hD9 hS dX4_init_121
                · exact absurd c97_4 (by decide)
        · refine lv_bipush (v := 48) hx hb dX4_init_84 (by decide) ?_
          refine lv_goto (tgt := 90) hx hb dX4_init_86 (by decide) ?_
          refine td_ti (nI h) (by rw [← e2, if_pos c70, if_neg c81]) ?_
          refine va_putF (D := (dC, dI)) (ci := 4) (v := .int (nI h)) (ty := .int) (C := RX4) (T := TX4) (N := 11) hx hb hts td_fX4 tyX4 tyX4_ok nmX4 hown hK hP hD hS 0 rfl rfl 2 (by decide) (hts (.fieldLink RX4 27 "TileDeskModel" "height" "I") (td_i12 (List.mem_of_getElem? (i := 1) rfl))) (fun _ h9 => h9) rfl hin rfl (by decide +kernel) rfl rfl (Nat.le_of_ble_eq_true rfl) dX4_init_90 (fun H locs hP hD hS => ?_)
          have hP : va_P (dC, dI) vwCl [(qM, .inr (4, [.int 0, .int (nI w), .int (nI h), .int 0, .ref zP, .int 0, .int 0, .int 0, .ref zC, .ref zN, .ref zD])), (zP, .inl (cI, 7180, .inl (fun _ => 0))), (zC, .inl (cI, 2304, .inl (fun _ => 0))), (zN, .inl (cI, 2304, .inl (fun _ => 0))), (zD, .inl (cZ, 36, .inl (fun _ => 0)))] H := hP
          have hD : va_D A [(qM, .inr (4, [.int 0, .int (nI w), .int (nI h), .int 0, .ref zP, .int 0, .int 0, .int 0, .ref zC, .ref zN, .ref zD])), (zP, .inl (cI, 7180, .inl (fun _ => 0))), (zC, .inl (cI, 2304, .inl (fun _ => 0))), (zN, .inl (cI, 2304, .inl (fun _ => 0))), (zD, .inl (cZ, 36, .inl (fun _ => 0)))] := hD
          refine lv_iconst (v := 0) hx hb dX4_init_93 (by decide) ?_
          refine lv_istore_n (lv' := [(3, .int 0), (0, .ref qM), (1, .int v1), (2, .int v2)]) hx hb dX4_init_94 rfl hl (by decide) rfl (fun ls hl => ?_)
          refine lv_iload_n hx hb dX4_init_95 rfl (lv_at hl 0 rfl) ?_
          refine lv_iconst (v := 3) hx hb dX4_init_96 (by decide) ?_
          refine lv_icmp_ge (tgt := 121) hx hb dX4_init_97 (by decide) (fun c97_5 => ?_) (fun c97_5 => ?_)
          · exact absurd c97_5 (by decide)
          · refine lv_aload_n hx hb dX4_init_100 rfl (lv_at hl 1 rfl) ?_
            refine va_get (D := (dC, dI)) (ci := 4) (v := .ref zP) (C := RX4) (T := TX4) (N := 11) hx hb hts td_fX4 hown hK hP 0 rfl rfl 4 (by decide) (hts (.fieldLink RX4 7 "TileDeskModel" "pieces" "[I") (td_i12 (List.mem_of_getElem? (i := 3) rfl))) (fun _ h9 => h9) rfl dX4_init_101 ?_
            refine lv_sipush (v := 7168) hx hb dX4_init_104 (by decide) ?_
            refine lv_iconst (v := 4) hx hb dX4_init_107 (by decide) ?_
            refine lv_iload_n hx hb dX4_init_108 rfl (lv_at hl 0 rfl) ?_
            refine lv_imul hx hb dX4_init_109 ?_
            refine td_ti (nI (0)) (pk_mul 4 0) ?_
            refine lv_iadd hx hb dX4_init_110 ?_
            refine td_ti (nI (7168)) (nI_add 7168 0) ?_
            refine lv_iconst (v := 2) hx hb dX4_init_111 (by decide) ?_
            refine lv_iadd hx hb dX4_init_112 ?_
            refine td_ti (nI (7170)) (nI_add 7168 2) ?_
            refine lv_iconst (v := 1) hx hb dX4_init_113 (by decide) ?_
            refine td_iast hx hb hK hP hD hS 1 0 7170 rfl rfl rfl (by decide) (by decide) dX4_init_114 (fun H locs hP hD hS => ?_)
            have hP : va_P (dC, dI) vwCl [(qM, .inr (4, [.int 0, .int (nI w), .int (nI h), .int 0, .ref zP, .int 0, .int 0, .int 0, .ref zC, .ref zN, .ref zD])), (zP, .inl (cI, 7180, .inl (upd (fun _ => 0) 7170 1))), (zC, .inl (cI, 2304, .inl (fun _ => 0))), (zN, .inl (cI, 2304, .inl (fun _ => 0))), (zD, .inl (cZ, 36, .inl (fun _ => 0)))] H := hP
            have hD : va_D A [(qM, .inr (4, [.int 0, .int (nI w), .int (nI h), .int 0, .ref zP, .int 0, .int 0, .int 0, .ref zC, .ref zN, .ref zD])), (zP, .inl (cI, 7180, .inl (upd (fun _ => 0) 7170 1))), (zC, .inl (cI, 2304, .inl (fun _ => 0))), (zN, .inl (cI, 2304, .inl (fun _ => 0))), (zD, .inl (cZ, 36, .inl (fun _ => 0)))] := hD
            refine lv_iinc (v := nI 1) (lv' := [(3, .int (nI 1)), (0, .ref qM), (1, .int v1), (2, .int v2)]) hx hb dX4_init_115 hl (k := 0) rfl (nI_add 0 1) (by decide) rfl (fun ls hl => ?_)
            refine lv_goto (tgt := 95) hx hb dX4_init_118 (by decide) ?_
            refine lv_iload_n hx hb dX4_init_95 rfl (lv_at hl 0 rfl) ?_
            refine lv_iconst (v := 3) hx hb dX4_init_96 (by decide) ?_
            refine lv_icmp_ge (tgt := 121) hx hb dX4_init_97 (by decide) (fun c97_6 => ?_) (fun c97_6 => ?_)
            · exact absurd c97_6 (by decide)
            · refine lv_aload_n hx hb dX4_init_100 rfl (lv_at hl 1 rfl) ?_
              refine va_get (D := (dC, dI)) (ci := 4) (v := .ref zP) (C := RX4) (T := TX4) (N := 11) hx hb hts td_fX4 hown hK hP 0 rfl rfl 4 (by decide) (hts (.fieldLink RX4 7 "TileDeskModel" "pieces" "[I") (td_i12 (List.mem_of_getElem? (i := 3) rfl))) (fun _ h9 => h9) rfl dX4_init_101 ?_
              refine lv_sipush (v := 7168) hx hb dX4_init_104 (by decide) ?_
              refine lv_iconst (v := 4) hx hb dX4_init_107 (by decide) ?_
              refine lv_iload_n hx hb dX4_init_108 rfl (lv_at hl 0 rfl) ?_
              refine lv_imul hx hb dX4_init_109 ?_
              refine td_ti (nI (4)) (pk_mul 4 1) ?_
              refine lv_iadd hx hb dX4_init_110 ?_
              refine td_ti (nI (7172)) (nI_add 7168 4) ?_
              refine lv_iconst (v := 2) hx hb dX4_init_111 (by decide) ?_
              refine lv_iadd hx hb dX4_init_112 ?_
              refine td_ti (nI (7174)) (nI_add 7172 2) ?_
              refine lv_iconst (v := 1) hx hb dX4_init_113 (by decide) ?_
              refine td_iast hx hb hK hP hD hS 1 0 7174 rfl rfl rfl (by decide) (by decide) dX4_init_114 (fun H locs hP hD hS => ?_)
              have hP : va_P (dC, dI) vwCl [(qM, .inr (4, [.int 0, .int (nI w), .int (nI h), .int 0, .ref zP, .int 0, .int 0, .int 0, .ref zC, .ref zN, .ref zD])), (zP, .inl (cI, 7180, .inl (upd (upd (fun _ => 0) 7170 1) 7174 1))), (zC, .inl (cI, 2304, .inl (fun _ => 0))), (zN, .inl (cI, 2304, .inl (fun _ => 0))), (zD, .inl (cZ, 36, .inl (fun _ => 0)))] H := hP
              have hD : va_D A [(qM, .inr (4, [.int 0, .int (nI w), .int (nI h), .int 0, .ref zP, .int 0, .int 0, .int 0, .ref zC, .ref zN, .ref zD])), (zP, .inl (cI, 7180, .inl (upd (upd (fun _ => 0) 7170 1) 7174 1))), (zC, .inl (cI, 2304, .inl (fun _ => 0))), (zN, .inl (cI, 2304, .inl (fun _ => 0))), (zD, .inl (cZ, 36, .inl (fun _ => 0)))] := hD
              refine lv_iinc (v := nI 2) (lv' := [(3, .int (nI 2)), (0, .ref qM), (1, .int v1), (2, .int v2)]) hx hb dX4_init_115 hl (k := 0) rfl (nI_add 1 1) (by decide) rfl (fun ls hl => ?_)
              refine lv_goto (tgt := 95) hx hb dX4_init_118 (by decide) ?_
              refine lv_iload_n hx hb dX4_init_95 rfl (lv_at hl 0 rfl) ?_
              refine lv_iconst (v := 3) hx hb dX4_init_96 (by decide) ?_
              refine lv_icmp_ge (tgt := 121) hx hb dX4_init_97 (by decide) (fun c97_7 => ?_) (fun c97_7 => ?_)
              · exact absurd c97_7 (by decide)
              · refine lv_aload_n hx hb dX4_init_100 rfl (lv_at hl 1 rfl) ?_
                refine va_get (D := (dC, dI)) (ci := 4) (v := .ref zP) (C := RX4) (T := TX4) (N := 11) hx hb hts td_fX4 hown hK hP 0 rfl rfl 4 (by decide) (hts (.fieldLink RX4 7 "TileDeskModel" "pieces" "[I") (td_i12 (List.mem_of_getElem? (i := 3) rfl))) (fun _ h9 => h9) rfl dX4_init_101 ?_
                refine lv_sipush (v := 7168) hx hb dX4_init_104 (by decide) ?_
                refine lv_iconst (v := 4) hx hb dX4_init_107 (by decide) ?_
                refine lv_iload_n hx hb dX4_init_108 rfl (lv_at hl 0 rfl) ?_
                refine lv_imul hx hb dX4_init_109 ?_
                refine td_ti (nI (8)) (pk_mul 4 2) ?_
                refine lv_iadd hx hb dX4_init_110 ?_
                refine td_ti (nI (7176)) (nI_add 7168 8) ?_
                refine lv_iconst (v := 2) hx hb dX4_init_111 (by decide) ?_
                refine lv_iadd hx hb dX4_init_112 ?_
                refine td_ti (nI (7178)) (nI_add 7176 2) ?_
                refine lv_iconst (v := 1) hx hb dX4_init_113 (by decide) ?_
                refine td_iast hx hb hK hP hD hS 1 0 7178 rfl rfl rfl (by decide) (by decide) dX4_init_114 (fun H locs hP hD hS => ?_)
                have hP : va_P (dC, dI) vwCl [(qM, .inr (4, [.int 0, .int (nI w), .int (nI h), .int 0, .ref zP, .int 0, .int 0, .int 0, .ref zC, .ref zN, .ref zD])), (zP, .inl (cI, 7180, .inl (upd (upd (upd (fun _ => 0) 7170 1) 7174 1) 7178 1))), (zC, .inl (cI, 2304, .inl (fun _ => 0))), (zN, .inl (cI, 2304, .inl (fun _ => 0))), (zD, .inl (cZ, 36, .inl (fun _ => 0)))] H := hP
                have hD : va_D A [(qM, .inr (4, [.int 0, .int (nI w), .int (nI h), .int 0, .ref zP, .int 0, .int 0, .int 0, .ref zC, .ref zN, .ref zD])), (zP, .inl (cI, 7180, .inl (upd (upd (upd (fun _ => 0) 7170 1) 7174 1) 7178 1))), (zC, .inl (cI, 2304, .inl (fun _ => 0))), (zN, .inl (cI, 2304, .inl (fun _ => 0))), (zD, .inl (cZ, 36, .inl (fun _ => 0)))] := hD
                refine lv_iinc (v := nI 3) (lv' := [(3, .int (nI 3)), (0, .ref qM), (1, .int v1), (2, .int v2)]) hx hb dX4_init_115 hl (k := 0) rfl (nI_add 2 1) (by decide) rfl (fun ls hl => ?_)
                refine lv_goto (tgt := 95) hx hb dX4_init_118 (by decide) ?_
                refine lv_iload_n hx hb dX4_init_95 rfl (lv_at hl 0 rfl) ?_
                refine lv_iconst (v := 3) hx hb dX4_init_96 (by decide) ?_
                refine lv_icmp_ge (tgt := 121) hx hb dX4_init_97 (by decide) (fun c97_8 => ?_) (fun c97_8 => ?_)
                · have hP9 := hP.sub (ws' := [(qM, .inr (4, [.int 0, .int (nI w), .int (nI h), .int 0, .ref zP, .int 0, .int 0, .int 0, .ref zC, .ref zN, .ref zD])), (zP, .inl (cI, 7180, .inl (upd (upd (upd (fun _ => 0) 7170 1) 7174 1) 7178 1))), (zC, .inl (cI, 2304, .inl (fun _ => 0))), (zN, .inl (cI, 2304, .inl (fun _ => 0))), (zD, .inl (cZ, 36, .inl (fun _ => 0)))]) [0, 1, 2, 3, 4] rfl
                  have hD9 := hD.sub (ws' := [(qM, .inr (4, [.int 0, .int (nI w), .int (nI h), .int 0, .ref zP, .int 0, .int 0, .int 0, .ref zC, .ref zN, .ref zD])), (zP, .inl (cI, 7180, .inl (upd (upd (upd (fun _ => 0) 7170 1) 7174 1) 7178 1))), (zC, .inl (cI, 2304, .inl (fun _ => 0))), (zN, .inl (cI, 2304, .inl (fun _ => 0))), (zD, .inl (cZ, 36, .inl (fun _ => 0)))]) [0, 1, 2, 3, 4] (by decide) rfl
                  exact td_rwv (zP, zC, zN, zD) hx hb hr hlocks hK (trivial) hP9 hD9 hS dX4_init_121
                · exact absurd c97_8 (by decide)
      · refine lv_bipush (v := 8) hx hb dX4_init_73 (by decide) ?_
        refine lv_goto (tgt := 90) hx hb dX4_init_75 (by decide) ?_
        refine td_ti (nI h) (by rw [← e2, if_neg c70]) ?_
        refine va_putF (D := (dC, dI)) (ci := 4) (v := .int (nI h)) (ty := .int) (C := RX4) (T := TX4) (N := 11) hx hb hts td_fX4 tyX4 tyX4_ok nmX4 hown hK hP hD hS 0 rfl rfl 2 (by decide) (hts (.fieldLink RX4 27 "TileDeskModel" "height" "I") (td_i12 (List.mem_of_getElem? (i := 1) rfl))) (fun _ h9 => h9) rfl hin rfl (by decide +kernel) rfl rfl (Nat.le_of_ble_eq_true rfl) dX4_init_90 (fun H locs hP hD hS => ?_)
        have hP : va_P (dC, dI) vwCl [(qM, .inr (4, [.int 0, .int (nI w), .int (nI h), .int 0, .ref zP, .int 0, .int 0, .int 0, .ref zC, .ref zN, .ref zD])), (zP, .inl (cI, 7180, .inl (fun _ => 0))), (zC, .inl (cI, 2304, .inl (fun _ => 0))), (zN, .inl (cI, 2304, .inl (fun _ => 0))), (zD, .inl (cZ, 36, .inl (fun _ => 0)))] H := hP
        have hD : va_D A [(qM, .inr (4, [.int 0, .int (nI w), .int (nI h), .int 0, .ref zP, .int 0, .int 0, .int 0, .ref zC, .ref zN, .ref zD])), (zP, .inl (cI, 7180, .inl (fun _ => 0))), (zC, .inl (cI, 2304, .inl (fun _ => 0))), (zN, .inl (cI, 2304, .inl (fun _ => 0))), (zD, .inl (cZ, 36, .inl (fun _ => 0)))] := hD
        refine lv_iconst (v := 0) hx hb dX4_init_93 (by decide) ?_
        refine lv_istore_n (lv' := [(3, .int 0), (0, .ref qM), (1, .int v1), (2, .int v2)]) hx hb dX4_init_94 rfl hl (by decide) rfl (fun ls hl => ?_)
        refine lv_iload_n hx hb dX4_init_95 rfl (lv_at hl 0 rfl) ?_
        refine lv_iconst (v := 3) hx hb dX4_init_96 (by decide) ?_
        refine lv_icmp_ge (tgt := 121) hx hb dX4_init_97 (by decide) (fun c97_9 => ?_) (fun c97_9 => ?_)
        · exact absurd c97_9 (by decide)
        · refine lv_aload_n hx hb dX4_init_100 rfl (lv_at hl 1 rfl) ?_
          refine va_get (D := (dC, dI)) (ci := 4) (v := .ref zP) (C := RX4) (T := TX4) (N := 11) hx hb hts td_fX4 hown hK hP 0 rfl rfl 4 (by decide) (hts (.fieldLink RX4 7 "TileDeskModel" "pieces" "[I") (td_i12 (List.mem_of_getElem? (i := 3) rfl))) (fun _ h9 => h9) rfl dX4_init_101 ?_
          refine lv_sipush (v := 7168) hx hb dX4_init_104 (by decide) ?_
          refine lv_iconst (v := 4) hx hb dX4_init_107 (by decide) ?_
          refine lv_iload_n hx hb dX4_init_108 rfl (lv_at hl 0 rfl) ?_
          refine lv_imul hx hb dX4_init_109 ?_
          refine td_ti (nI (0)) (pk_mul 4 0) ?_
          refine lv_iadd hx hb dX4_init_110 ?_
          refine td_ti (nI (7168)) (nI_add 7168 0) ?_
          refine lv_iconst (v := 2) hx hb dX4_init_111 (by decide) ?_
          refine lv_iadd hx hb dX4_init_112 ?_
          refine td_ti (nI (7170)) (nI_add 7168 2) ?_
          refine lv_iconst (v := 1) hx hb dX4_init_113 (by decide) ?_
          refine td_iast hx hb hK hP hD hS 1 0 7170 rfl rfl rfl (by decide) (by decide) dX4_init_114 (fun H locs hP hD hS => ?_)
          have hP : va_P (dC, dI) vwCl [(qM, .inr (4, [.int 0, .int (nI w), .int (nI h), .int 0, .ref zP, .int 0, .int 0, .int 0, .ref zC, .ref zN, .ref zD])), (zP, .inl (cI, 7180, .inl (upd (fun _ => 0) 7170 1))), (zC, .inl (cI, 2304, .inl (fun _ => 0))), (zN, .inl (cI, 2304, .inl (fun _ => 0))), (zD, .inl (cZ, 36, .inl (fun _ => 0)))] H := hP
          have hD : va_D A [(qM, .inr (4, [.int 0, .int (nI w), .int (nI h), .int 0, .ref zP, .int 0, .int 0, .int 0, .ref zC, .ref zN, .ref zD])), (zP, .inl (cI, 7180, .inl (upd (fun _ => 0) 7170 1))), (zC, .inl (cI, 2304, .inl (fun _ => 0))), (zN, .inl (cI, 2304, .inl (fun _ => 0))), (zD, .inl (cZ, 36, .inl (fun _ => 0)))] := hD
          refine lv_iinc (v := nI 1) (lv' := [(3, .int (nI 1)), (0, .ref qM), (1, .int v1), (2, .int v2)]) hx hb dX4_init_115 hl (k := 0) rfl (nI_add 0 1) (by decide) rfl (fun ls hl => ?_)
          refine lv_goto (tgt := 95) hx hb dX4_init_118 (by decide) ?_
          refine lv_iload_n hx hb dX4_init_95 rfl (lv_at hl 0 rfl) ?_
          refine lv_iconst (v := 3) hx hb dX4_init_96 (by decide) ?_
          refine lv_icmp_ge (tgt := 121) hx hb dX4_init_97 (by decide) (fun c97_10 => ?_) (fun c97_10 => ?_)
          · exact absurd c97_10 (by decide)
          · refine lv_aload_n hx hb dX4_init_100 rfl (lv_at hl 1 rfl) ?_
            refine va_get (D := (dC, dI)) (ci := 4) (v := .ref zP) (C := RX4) (T := TX4) (N := 11) hx hb hts td_fX4 hown hK hP 0 rfl rfl 4 (by decide) (hts (.fieldLink RX4 7 "TileDeskModel" "pieces" "[I") (td_i12 (List.mem_of_getElem? (i := 3) rfl))) (fun _ h9 => h9) rfl dX4_init_101 ?_
            refine lv_sipush (v := 7168) hx hb dX4_init_104 (by decide) ?_
            refine lv_iconst (v := 4) hx hb dX4_init_107 (by decide) ?_
            refine lv_iload_n hx hb dX4_init_108 rfl (lv_at hl 0 rfl) ?_
            refine lv_imul hx hb dX4_init_109 ?_
            refine td_ti (nI (4)) (pk_mul 4 1) ?_
            refine lv_iadd hx hb dX4_init_110 ?_
            refine td_ti (nI (7172)) (nI_add 7168 4) ?_
            refine lv_iconst (v := 2) hx hb dX4_init_111 (by decide) ?_
            refine lv_iadd hx hb dX4_init_112 ?_
            refine td_ti (nI (7174)) (nI_add 7172 2) ?_
            refine lv_iconst (v := 1) hx hb dX4_init_113 (by decide) ?_
            refine td_iast hx hb hK hP hD hS 1 0 7174 rfl rfl rfl (by decide) (by decide) dX4_init_114 (fun H locs hP hD hS => ?_)
            have hP : va_P (dC, dI) vwCl [(qM, .inr (4, [.int 0, .int (nI w), .int (nI h), .int 0, .ref zP, .int 0, .int 0, .int 0, .ref zC, .ref zN, .ref zD])), (zP, .inl (cI, 7180, .inl (upd (upd (fun _ => 0) 7170 1) 7174 1))), (zC, .inl (cI, 2304, .inl (fun _ => 0))), (zN, .inl (cI, 2304, .inl (fun _ => 0))), (zD, .inl (cZ, 36, .inl (fun _ => 0)))] H := hP
            have hD : va_D A [(qM, .inr (4, [.int 0, .int (nI w), .int (nI h), .int 0, .ref zP, .int 0, .int 0, .int 0, .ref zC, .ref zN, .ref zD])), (zP, .inl (cI, 7180, .inl (upd (upd (fun _ => 0) 7170 1) 7174 1))), (zC, .inl (cI, 2304, .inl (fun _ => 0))), (zN, .inl (cI, 2304, .inl (fun _ => 0))), (zD, .inl (cZ, 36, .inl (fun _ => 0)))] := hD
            refine lv_iinc (v := nI 2) (lv' := [(3, .int (nI 2)), (0, .ref qM), (1, .int v1), (2, .int v2)]) hx hb dX4_init_115 hl (k := 0) rfl (nI_add 1 1) (by decide) rfl (fun ls hl => ?_)
            refine lv_goto (tgt := 95) hx hb dX4_init_118 (by decide) ?_
            refine lv_iload_n hx hb dX4_init_95 rfl (lv_at hl 0 rfl) ?_
            refine lv_iconst (v := 3) hx hb dX4_init_96 (by decide) ?_
            refine lv_icmp_ge (tgt := 121) hx hb dX4_init_97 (by decide) (fun c97_11 => ?_) (fun c97_11 => ?_)
            · exact absurd c97_11 (by decide)
            · refine lv_aload_n hx hb dX4_init_100 rfl (lv_at hl 1 rfl) ?_
              refine va_get (D := (dC, dI)) (ci := 4) (v := .ref zP) (C := RX4) (T := TX4) (N := 11) hx hb hts td_fX4 hown hK hP 0 rfl rfl 4 (by decide) (hts (.fieldLink RX4 7 "TileDeskModel" "pieces" "[I") (td_i12 (List.mem_of_getElem? (i := 3) rfl))) (fun _ h9 => h9) rfl dX4_init_101 ?_
              refine lv_sipush (v := 7168) hx hb dX4_init_104 (by decide) ?_
              refine lv_iconst (v := 4) hx hb dX4_init_107 (by decide) ?_
              refine lv_iload_n hx hb dX4_init_108 rfl (lv_at hl 0 rfl) ?_
              refine lv_imul hx hb dX4_init_109 ?_
              refine td_ti (nI (8)) (pk_mul 4 2) ?_
              refine lv_iadd hx hb dX4_init_110 ?_
              refine td_ti (nI (7176)) (nI_add 7168 8) ?_
              refine lv_iconst (v := 2) hx hb dX4_init_111 (by decide) ?_
              refine lv_iadd hx hb dX4_init_112 ?_
              refine td_ti (nI (7178)) (nI_add 7176 2) ?_
              refine lv_iconst (v := 1) hx hb dX4_init_113 (by decide) ?_
              refine td_iast hx hb hK hP hD hS 1 0 7178 rfl rfl rfl (by decide) (by decide) dX4_init_114 (fun H locs hP hD hS => ?_)
              have hP : va_P (dC, dI) vwCl [(qM, .inr (4, [.int 0, .int (nI w), .int (nI h), .int 0, .ref zP, .int 0, .int 0, .int 0, .ref zC, .ref zN, .ref zD])), (zP, .inl (cI, 7180, .inl (upd (upd (upd (fun _ => 0) 7170 1) 7174 1) 7178 1))), (zC, .inl (cI, 2304, .inl (fun _ => 0))), (zN, .inl (cI, 2304, .inl (fun _ => 0))), (zD, .inl (cZ, 36, .inl (fun _ => 0)))] H := hP
              have hD : va_D A [(qM, .inr (4, [.int 0, .int (nI w), .int (nI h), .int 0, .ref zP, .int 0, .int 0, .int 0, .ref zC, .ref zN, .ref zD])), (zP, .inl (cI, 7180, .inl (upd (upd (upd (fun _ => 0) 7170 1) 7174 1) 7178 1))), (zC, .inl (cI, 2304, .inl (fun _ => 0))), (zN, .inl (cI, 2304, .inl (fun _ => 0))), (zD, .inl (cZ, 36, .inl (fun _ => 0)))] := hD
              refine lv_iinc (v := nI 3) (lv' := [(3, .int (nI 3)), (0, .ref qM), (1, .int v1), (2, .int v2)]) hx hb dX4_init_115 hl (k := 0) rfl (nI_add 2 1) (by decide) rfl (fun ls hl => ?_)
              refine lv_goto (tgt := 95) hx hb dX4_init_118 (by decide) ?_
              refine lv_iload_n hx hb dX4_init_95 rfl (lv_at hl 0 rfl) ?_
              refine lv_iconst (v := 3) hx hb dX4_init_96 (by decide) ?_
              refine lv_icmp_ge (tgt := 121) hx hb dX4_init_97 (by decide) (fun c97_12 => ?_) (fun c97_12 => ?_)
              · have hP9 := hP.sub (ws' := [(qM, .inr (4, [.int 0, .int (nI w), .int (nI h), .int 0, .ref zP, .int 0, .int 0, .int 0, .ref zC, .ref zN, .ref zD])), (zP, .inl (cI, 7180, .inl (upd (upd (upd (fun _ => 0) 7170 1) 7174 1) 7178 1))), (zC, .inl (cI, 2304, .inl (fun _ => 0))), (zN, .inl (cI, 2304, .inl (fun _ => 0))), (zD, .inl (cZ, 36, .inl (fun _ => 0)))]) [0, 1, 2, 3, 4] rfl
                have hD9 := hD.sub (ws' := [(qM, .inr (4, [.int 0, .int (nI w), .int (nI h), .int 0, .ref zP, .int 0, .int 0, .int 0, .ref zC, .ref zN, .ref zD])), (zP, .inl (cI, 7180, .inl (upd (upd (upd (fun _ => 0) 7170 1) 7174 1) 7178 1))), (zC, .inl (cI, 2304, .inl (fun _ => 0))), (zN, .inl (cI, 2304, .inl (fun _ => 0))), (zD, .inl (cZ, 36, .inl (fun _ => 0)))]) [0, 1, 2, 3, 4] (by decide) rfl
                exact td_rwv (zP, zC, zN, zD) hx hb hr hlocks hK (trivial) hP9 hD9 hS dX4_init_121
              · exact absurd c97_12 (by decide)
    · refine lv_bipush (v := 48) hx hb dX4_init_57 (by decide) ?_
      refine lv_goto (tgt := 63) hx hb dX4_init_59 (by decide) ?_
      refine td_ti (nI w) (by rw [← e1, if_pos c43, if_neg c54]) ?_
      refine va_putF (D := (dC, dI)) (ci := 4) (v := .int (nI w)) (ty := .int) (C := RX4) (T := TX4) (N := 11) hx hb hts td_fX4 tyX4 tyX4_ok nmX4 hown hK hP hD hS 0 rfl rfl 1 (by decide) (hts (.fieldLink RX4 23 "TileDeskModel" "width" "I") (td_i12 (List.mem_of_getElem? (i := 0) rfl))) (fun _ h9 => h9) rfl hin rfl (by decide +kernel) rfl rfl (Nat.le_of_ble_eq_true rfl) dX4_init_63 (fun H locs hP hD hS => ?_)
      have hP : va_P (dC, dI) vwCl [(qM, .inr (4, [.int 0, .int (nI w), .int 0, .int 0, .ref zP, .int 0, .int 0, .int 0, .ref zC, .ref zN, .ref zD])), (zP, .inl (cI, 7180, .inl (fun _ => 0))), (zC, .inl (cI, 2304, .inl (fun _ => 0))), (zN, .inl (cI, 2304, .inl (fun _ => 0))), (zD, .inl (cZ, 36, .inl (fun _ => 0)))] H := hP
      have hD : va_D A [(qM, .inr (4, [.int 0, .int (nI w), .int 0, .int 0, .ref zP, .int 0, .int 0, .int 0, .ref zC, .ref zN, .ref zD])), (zP, .inl (cI, 7180, .inl (fun _ => 0))), (zC, .inl (cI, 2304, .inl (fun _ => 0))), (zN, .inl (cI, 2304, .inl (fun _ => 0))), (zD, .inl (cZ, 36, .inl (fun _ => 0)))] := hD
      refine lv_aload_n hx hb dX4_init_66 rfl (lv_at hl 0 rfl) ?_
      refine lv_iload_n hx hb dX4_init_67 rfl (lv_at hl 2 rfl) ?_
      refine lv_bipush (v := 8) hx hb dX4_init_68 (by decide) ?_
      refine lv_icmp_ge (tgt := 78) hx hb dX4_init_70 (by decide) (fun c70 => ?_) (fun c70 => ?_)
      · refine lv_iload_n hx hb dX4_init_78 rfl (lv_at hl 2 rfl) ?_
        refine lv_bipush (v := 48) hx hb dX4_init_79 (by decide) ?_
        refine lv_icmp_le (tgt := 89) hx hb dX4_init_81 (by decide) (fun c81 => ?_) (fun c81 => ?_)
        · refine lv_iload_n hx hb dX4_init_89 rfl (lv_at hl 2 rfl) ?_
          refine td_ti (nI h) (by rw [← e2, if_pos c70, if_pos c81]) ?_
          refine va_putF (D := (dC, dI)) (ci := 4) (v := .int (nI h)) (ty := .int) (C := RX4) (T := TX4) (N := 11) hx hb hts td_fX4 tyX4 tyX4_ok nmX4 hown hK hP hD hS 0 rfl rfl 2 (by decide) (hts (.fieldLink RX4 27 "TileDeskModel" "height" "I") (td_i12 (List.mem_of_getElem? (i := 1) rfl))) (fun _ h9 => h9) rfl hin rfl (by decide +kernel) rfl rfl (Nat.le_of_ble_eq_true rfl) dX4_init_90 (fun H locs hP hD hS => ?_)
          have hP : va_P (dC, dI) vwCl [(qM, .inr (4, [.int 0, .int (nI w), .int (nI h), .int 0, .ref zP, .int 0, .int 0, .int 0, .ref zC, .ref zN, .ref zD])), (zP, .inl (cI, 7180, .inl (fun _ => 0))), (zC, .inl (cI, 2304, .inl (fun _ => 0))), (zN, .inl (cI, 2304, .inl (fun _ => 0))), (zD, .inl (cZ, 36, .inl (fun _ => 0)))] H := hP
          have hD : va_D A [(qM, .inr (4, [.int 0, .int (nI w), .int (nI h), .int 0, .ref zP, .int 0, .int 0, .int 0, .ref zC, .ref zN, .ref zD])), (zP, .inl (cI, 7180, .inl (fun _ => 0))), (zC, .inl (cI, 2304, .inl (fun _ => 0))), (zN, .inl (cI, 2304, .inl (fun _ => 0))), (zD, .inl (cZ, 36, .inl (fun _ => 0)))] := hD
          refine lv_iconst (v := 0) hx hb dX4_init_93 (by decide) ?_
          refine lv_istore_n (lv' := [(3, .int 0), (0, .ref qM), (1, .int v1), (2, .int v2)]) hx hb dX4_init_94 rfl hl (by decide) rfl (fun ls hl => ?_)
          refine lv_iload_n hx hb dX4_init_95 rfl (lv_at hl 0 rfl) ?_
          refine lv_iconst (v := 3) hx hb dX4_init_96 (by decide) ?_
          refine lv_icmp_ge (tgt := 121) hx hb dX4_init_97 (by decide) (fun c97_13 => ?_) (fun c97_13 => ?_)
          · exact absurd c97_13 (by decide)
          · refine lv_aload_n hx hb dX4_init_100 rfl (lv_at hl 1 rfl) ?_
            refine va_get (D := (dC, dI)) (ci := 4) (v := .ref zP) (C := RX4) (T := TX4) (N := 11) hx hb hts td_fX4 hown hK hP 0 rfl rfl 4 (by decide) (hts (.fieldLink RX4 7 "TileDeskModel" "pieces" "[I") (td_i12 (List.mem_of_getElem? (i := 3) rfl))) (fun _ h9 => h9) rfl dX4_init_101 ?_
            refine lv_sipush (v := 7168) hx hb dX4_init_104 (by decide) ?_
            refine lv_iconst (v := 4) hx hb dX4_init_107 (by decide) ?_
            refine lv_iload_n hx hb dX4_init_108 rfl (lv_at hl 0 rfl) ?_
            refine lv_imul hx hb dX4_init_109 ?_
            refine td_ti (nI (0)) (pk_mul 4 0) ?_
            refine lv_iadd hx hb dX4_init_110 ?_
            refine td_ti (nI (7168)) (nI_add 7168 0) ?_
            refine lv_iconst (v := 2) hx hb dX4_init_111 (by decide) ?_
            refine lv_iadd hx hb dX4_init_112 ?_
            refine td_ti (nI (7170)) (nI_add 7168 2) ?_
            refine lv_iconst (v := 1) hx hb dX4_init_113 (by decide) ?_
            refine td_iast hx hb hK hP hD hS 1 0 7170 rfl rfl rfl (by decide) (by decide) dX4_init_114 (fun H locs hP hD hS => ?_)
            have hP : va_P (dC, dI) vwCl [(qM, .inr (4, [.int 0, .int (nI w), .int (nI h), .int 0, .ref zP, .int 0, .int 0, .int 0, .ref zC, .ref zN, .ref zD])), (zP, .inl (cI, 7180, .inl (upd (fun _ => 0) 7170 1))), (zC, .inl (cI, 2304, .inl (fun _ => 0))), (zN, .inl (cI, 2304, .inl (fun _ => 0))), (zD, .inl (cZ, 36, .inl (fun _ => 0)))] H := hP
            have hD : va_D A [(qM, .inr (4, [.int 0, .int (nI w), .int (nI h), .int 0, .ref zP, .int 0, .int 0, .int 0, .ref zC, .ref zN, .ref zD])), (zP, .inl (cI, 7180, .inl (upd (fun _ => 0) 7170 1))), (zC, .inl (cI, 2304, .inl (fun _ => 0))), (zN, .inl (cI, 2304, .inl (fun _ => 0))), (zD, .inl (cZ, 36, .inl (fun _ => 0)))] := hD
            refine lv_iinc (v := nI 1) (lv' := [(3, .int (nI 1)), (0, .ref qM), (1, .int v1), (2, .int v2)]) hx hb dX4_init_115 hl (k := 0) rfl (nI_add 0 1) (by decide) rfl (fun ls hl => ?_)
            refine lv_goto (tgt := 95) hx hb dX4_init_118 (by decide) ?_
            refine lv_iload_n hx hb dX4_init_95 rfl (lv_at hl 0 rfl) ?_
            refine lv_iconst (v := 3) hx hb dX4_init_96 (by decide) ?_
            refine lv_icmp_ge (tgt := 121) hx hb dX4_init_97 (by decide) (fun c97_14 => ?_) (fun c97_14 => ?_)
            · exact absurd c97_14 (by decide)
            · refine lv_aload_n hx hb dX4_init_100 rfl (lv_at hl 1 rfl) ?_
              refine va_get (D := (dC, dI)) (ci := 4) (v := .ref zP) (C := RX4) (T := TX4) (N := 11) hx hb hts td_fX4 hown hK hP 0 rfl rfl 4 (by decide) (hts (.fieldLink RX4 7 "TileDeskModel" "pieces" "[I") (td_i12 (List.mem_of_getElem? (i := 3) rfl))) (fun _ h9 => h9) rfl dX4_init_101 ?_
              refine lv_sipush (v := 7168) hx hb dX4_init_104 (by decide) ?_
              refine lv_iconst (v := 4) hx hb dX4_init_107 (by decide) ?_
              refine lv_iload_n hx hb dX4_init_108 rfl (lv_at hl 0 rfl) ?_
              refine lv_imul hx hb dX4_init_109 ?_
              refine td_ti (nI (4)) (pk_mul 4 1) ?_
              refine lv_iadd hx hb dX4_init_110 ?_
              refine td_ti (nI (7172)) (nI_add 7168 4) ?_
              refine lv_iconst (v := 2) hx hb dX4_init_111 (by decide) ?_
              refine lv_iadd hx hb dX4_init_112 ?_
              refine td_ti (nI (7174)) (nI_add 7172 2) ?_
              refine lv_iconst (v := 1) hx hb dX4_init_113 (by decide) ?_
              refine td_iast hx hb hK hP hD hS 1 0 7174 rfl rfl rfl (by decide) (by decide) dX4_init_114 (fun H locs hP hD hS => ?_)
              have hP : va_P (dC, dI) vwCl [(qM, .inr (4, [.int 0, .int (nI w), .int (nI h), .int 0, .ref zP, .int 0, .int 0, .int 0, .ref zC, .ref zN, .ref zD])), (zP, .inl (cI, 7180, .inl (upd (upd (fun _ => 0) 7170 1) 7174 1))), (zC, .inl (cI, 2304, .inl (fun _ => 0))), (zN, .inl (cI, 2304, .inl (fun _ => 0))), (zD, .inl (cZ, 36, .inl (fun _ => 0)))] H := hP
              have hD : va_D A [(qM, .inr (4, [.int 0, .int (nI w), .int (nI h), .int 0, .ref zP, .int 0, .int 0, .int 0, .ref zC, .ref zN, .ref zD])), (zP, .inl (cI, 7180, .inl (upd (upd (fun _ => 0) 7170 1) 7174 1))), (zC, .inl (cI, 2304, .inl (fun _ => 0))), (zN, .inl (cI, 2304, .inl (fun _ => 0))), (zD, .inl (cZ, 36, .inl (fun _ => 0)))] := hD
              refine lv_iinc (v := nI 2) (lv' := [(3, .int (nI 2)), (0, .ref qM), (1, .int v1), (2, .int v2)]) hx hb dX4_init_115 hl (k := 0) rfl (nI_add 1 1) (by decide) rfl (fun ls hl => ?_)
              refine lv_goto (tgt := 95) hx hb dX4_init_118 (by decide) ?_
              refine lv_iload_n hx hb dX4_init_95 rfl (lv_at hl 0 rfl) ?_
              refine lv_iconst (v := 3) hx hb dX4_init_96 (by decide) ?_
              refine lv_icmp_ge (tgt := 121) hx hb dX4_init_97 (by decide) (fun c97_15 => ?_) (fun c97_15 => ?_)
              · exact absurd c97_15 (by decide)
              · refine lv_aload_n hx hb dX4_init_100 rfl (lv_at hl 1 rfl) ?_
                refine va_get (D := (dC, dI)) (ci := 4) (v := .ref zP) (C := RX4) (T := TX4) (N := 11) hx hb hts td_fX4 hown hK hP 0 rfl rfl 4 (by decide) (hts (.fieldLink RX4 7 "TileDeskModel" "pieces" "[I") (td_i12 (List.mem_of_getElem? (i := 3) rfl))) (fun _ h9 => h9) rfl dX4_init_101 ?_
                refine lv_sipush (v := 7168) hx hb dX4_init_104 (by decide) ?_
                refine lv_iconst (v := 4) hx hb dX4_init_107 (by decide) ?_
                refine lv_iload_n hx hb dX4_init_108 rfl (lv_at hl 0 rfl) ?_
                refine lv_imul hx hb dX4_init_109 ?_
                refine td_ti (nI (8)) (pk_mul 4 2) ?_
                refine lv_iadd hx hb dX4_init_110 ?_
                refine td_ti (nI (7176)) (nI_add 7168 8) ?_
                refine lv_iconst (v := 2) hx hb dX4_init_111 (by decide) ?_
                refine lv_iadd hx hb dX4_init_112 ?_
                refine td_ti (nI (7178)) (nI_add 7176 2) ?_
                refine lv_iconst (v := 1) hx hb dX4_init_113 (by decide) ?_
                refine td_iast hx hb hK hP hD hS 1 0 7178 rfl rfl rfl (by decide) (by decide) dX4_init_114 (fun H locs hP hD hS => ?_)
                have hP : va_P (dC, dI) vwCl [(qM, .inr (4, [.int 0, .int (nI w), .int (nI h), .int 0, .ref zP, .int 0, .int 0, .int 0, .ref zC, .ref zN, .ref zD])), (zP, .inl (cI, 7180, .inl (upd (upd (upd (fun _ => 0) 7170 1) 7174 1) 7178 1))), (zC, .inl (cI, 2304, .inl (fun _ => 0))), (zN, .inl (cI, 2304, .inl (fun _ => 0))), (zD, .inl (cZ, 36, .inl (fun _ => 0)))] H := hP
                have hD : va_D A [(qM, .inr (4, [.int 0, .int (nI w), .int (nI h), .int 0, .ref zP, .int 0, .int 0, .int 0, .ref zC, .ref zN, .ref zD])), (zP, .inl (cI, 7180, .inl (upd (upd (upd (fun _ => 0) 7170 1) 7174 1) 7178 1))), (zC, .inl (cI, 2304, .inl (fun _ => 0))), (zN, .inl (cI, 2304, .inl (fun _ => 0))), (zD, .inl (cZ, 36, .inl (fun _ => 0)))] := hD
                refine lv_iinc (v := nI 3) (lv' := [(3, .int (nI 3)), (0, .ref qM), (1, .int v1), (2, .int v2)]) hx hb dX4_init_115 hl (k := 0) rfl (nI_add 2 1) (by decide) rfl (fun ls hl => ?_)
                refine lv_goto (tgt := 95) hx hb dX4_init_118 (by decide) ?_
                refine lv_iload_n hx hb dX4_init_95 rfl (lv_at hl 0 rfl) ?_
                refine lv_iconst (v := 3) hx hb dX4_init_96 (by decide) ?_
                refine lv_icmp_ge (tgt := 121) hx hb dX4_init_97 (by decide) (fun c97_16 => ?_) (fun c97_16 => ?_)
                · have hP9 := hP.sub (ws' := [(qM, .inr (4, [.int 0, .int (nI w), .int (nI h), .int 0, .ref zP, .int 0, .int 0, .int 0, .ref zC, .ref zN, .ref zD])), (zP, .inl (cI, 7180, .inl (upd (upd (upd (fun _ => 0) 7170 1) 7174 1) 7178 1))), (zC, .inl (cI, 2304, .inl (fun _ => 0))), (zN, .inl (cI, 2304, .inl (fun _ => 0))), (zD, .inl (cZ, 36, .inl (fun _ => 0)))]) [0, 1, 2, 3, 4] rfl
                  have hD9 := hD.sub (ws' := [(qM, .inr (4, [.int 0, .int (nI w), .int (nI h), .int 0, .ref zP, .int 0, .int 0, .int 0, .ref zC, .ref zN, .ref zD])), (zP, .inl (cI, 7180, .inl (upd (upd (upd (fun _ => 0) 7170 1) 7174 1) 7178 1))), (zC, .inl (cI, 2304, .inl (fun _ => 0))), (zN, .inl (cI, 2304, .inl (fun _ => 0))), (zD, .inl (cZ, 36, .inl (fun _ => 0)))]) [0, 1, 2, 3, 4] (by decide) rfl
                  exact td_rwv (zP, zC, zN, zD) hx hb hr hlocks hK (trivial) hP9 hD9 hS dX4_init_121
                · exact absurd c97_16 (by decide)
        · refine lv_bipush (v := 48) hx hb dX4_init_84 (by decide) ?_
          refine lv_goto (tgt := 90) hx hb dX4_init_86 (by decide) ?_
          refine td_ti (nI h) (by rw [← e2, if_pos c70, if_neg c81]) ?_
          refine va_putF (D := (dC, dI)) (ci := 4) (v := .int (nI h)) (ty := .int) (C := RX4) (T := TX4) (N := 11) hx hb hts td_fX4 tyX4 tyX4_ok nmX4 hown hK hP hD hS 0 rfl rfl 2 (by decide) (hts (.fieldLink RX4 27 "TileDeskModel" "height" "I") (td_i12 (List.mem_of_getElem? (i := 1) rfl))) (fun _ h9 => h9) rfl hin rfl (by decide +kernel) rfl rfl (Nat.le_of_ble_eq_true rfl) dX4_init_90 (fun H locs hP hD hS => ?_)
          have hP : va_P (dC, dI) vwCl [(qM, .inr (4, [.int 0, .int (nI w), .int (nI h), .int 0, .ref zP, .int 0, .int 0, .int 0, .ref zC, .ref zN, .ref zD])), (zP, .inl (cI, 7180, .inl (fun _ => 0))), (zC, .inl (cI, 2304, .inl (fun _ => 0))), (zN, .inl (cI, 2304, .inl (fun _ => 0))), (zD, .inl (cZ, 36, .inl (fun _ => 0)))] H := hP
          have hD : va_D A [(qM, .inr (4, [.int 0, .int (nI w), .int (nI h), .int 0, .ref zP, .int 0, .int 0, .int 0, .ref zC, .ref zN, .ref zD])), (zP, .inl (cI, 7180, .inl (fun _ => 0))), (zC, .inl (cI, 2304, .inl (fun _ => 0))), (zN, .inl (cI, 2304, .inl (fun _ => 0))), (zD, .inl (cZ, 36, .inl (fun _ => 0)))] := hD
          refine lv_iconst (v := 0) hx hb dX4_init_93 (by decide) ?_
          refine lv_istore_n (lv' := [(3, .int 0), (0, .ref qM), (1, .int v1), (2, .int v2)]) hx hb dX4_init_94 rfl hl (by decide) rfl (fun ls hl => ?_)
          refine lv_iload_n hx hb dX4_init_95 rfl (lv_at hl 0 rfl) ?_
          refine lv_iconst (v := 3) hx hb dX4_init_96 (by decide) ?_
          refine lv_icmp_ge (tgt := 121) hx hb dX4_init_97 (by decide) (fun c97_17 => ?_) (fun c97_17 => ?_)
          · exact absurd c97_17 (by decide)
          · refine lv_aload_n hx hb dX4_init_100 rfl (lv_at hl 1 rfl) ?_
            refine va_get (D := (dC, dI)) (ci := 4) (v := .ref zP) (C := RX4) (T := TX4) (N := 11) hx hb hts td_fX4 hown hK hP 0 rfl rfl 4 (by decide) (hts (.fieldLink RX4 7 "TileDeskModel" "pieces" "[I") (td_i12 (List.mem_of_getElem? (i := 3) rfl))) (fun _ h9 => h9) rfl dX4_init_101 ?_
            refine lv_sipush (v := 7168) hx hb dX4_init_104 (by decide) ?_
            refine lv_iconst (v := 4) hx hb dX4_init_107 (by decide) ?_
            refine lv_iload_n hx hb dX4_init_108 rfl (lv_at hl 0 rfl) ?_
            refine lv_imul hx hb dX4_init_109 ?_
            refine td_ti (nI (0)) (pk_mul 4 0) ?_
            refine lv_iadd hx hb dX4_init_110 ?_
            refine td_ti (nI (7168)) (nI_add 7168 0) ?_
            refine lv_iconst (v := 2) hx hb dX4_init_111 (by decide) ?_
            refine lv_iadd hx hb dX4_init_112 ?_
            refine td_ti (nI (7170)) (nI_add 7168 2) ?_
            refine lv_iconst (v := 1) hx hb dX4_init_113 (by decide) ?_
            refine td_iast hx hb hK hP hD hS 1 0 7170 rfl rfl rfl (by decide) (by decide) dX4_init_114 (fun H locs hP hD hS => ?_)
            have hP : va_P (dC, dI) vwCl [(qM, .inr (4, [.int 0, .int (nI w), .int (nI h), .int 0, .ref zP, .int 0, .int 0, .int 0, .ref zC, .ref zN, .ref zD])), (zP, .inl (cI, 7180, .inl (upd (fun _ => 0) 7170 1))), (zC, .inl (cI, 2304, .inl (fun _ => 0))), (zN, .inl (cI, 2304, .inl (fun _ => 0))), (zD, .inl (cZ, 36, .inl (fun _ => 0)))] H := hP
            have hD : va_D A [(qM, .inr (4, [.int 0, .int (nI w), .int (nI h), .int 0, .ref zP, .int 0, .int 0, .int 0, .ref zC, .ref zN, .ref zD])), (zP, .inl (cI, 7180, .inl (upd (fun _ => 0) 7170 1))), (zC, .inl (cI, 2304, .inl (fun _ => 0))), (zN, .inl (cI, 2304, .inl (fun _ => 0))), (zD, .inl (cZ, 36, .inl (fun _ => 0)))] := hD
            refine lv_iinc (v := nI 1) (lv' := [(3, .int (nI 1)), (0, .ref qM), (1, .int v1), (2, .int v2)]) hx hb dX4_init_115 hl (k := 0) rfl (nI_add 0 1) (by decide) rfl (fun ls hl => ?_)
            refine lv_goto (tgt := 95) hx hb dX4_init_118 (by decide) ?_
            refine lv_iload_n hx hb dX4_init_95 rfl (lv_at hl 0 rfl) ?_
            refine lv_iconst (v := 3) hx hb dX4_init_96 (by decide) ?_
            refine lv_icmp_ge (tgt := 121) hx hb dX4_init_97 (by decide) (fun c97_18 => ?_) (fun c97_18 => ?_)
            · exact absurd c97_18 (by decide)
            · refine lv_aload_n hx hb dX4_init_100 rfl (lv_at hl 1 rfl) ?_
              refine va_get (D := (dC, dI)) (ci := 4) (v := .ref zP) (C := RX4) (T := TX4) (N := 11) hx hb hts td_fX4 hown hK hP 0 rfl rfl 4 (by decide) (hts (.fieldLink RX4 7 "TileDeskModel" "pieces" "[I") (td_i12 (List.mem_of_getElem? (i := 3) rfl))) (fun _ h9 => h9) rfl dX4_init_101 ?_
              refine lv_sipush (v := 7168) hx hb dX4_init_104 (by decide) ?_
              refine lv_iconst (v := 4) hx hb dX4_init_107 (by decide) ?_
              refine lv_iload_n hx hb dX4_init_108 rfl (lv_at hl 0 rfl) ?_
              refine lv_imul hx hb dX4_init_109 ?_
              refine td_ti (nI (4)) (pk_mul 4 1) ?_
              refine lv_iadd hx hb dX4_init_110 ?_
              refine td_ti (nI (7172)) (nI_add 7168 4) ?_
              refine lv_iconst (v := 2) hx hb dX4_init_111 (by decide) ?_
              refine lv_iadd hx hb dX4_init_112 ?_
              refine td_ti (nI (7174)) (nI_add 7172 2) ?_
              refine lv_iconst (v := 1) hx hb dX4_init_113 (by decide) ?_
              refine td_iast hx hb hK hP hD hS 1 0 7174 rfl rfl rfl (by decide) (by decide) dX4_init_114 (fun H locs hP hD hS => ?_)
              have hP : va_P (dC, dI) vwCl [(qM, .inr (4, [.int 0, .int (nI w), .int (nI h), .int 0, .ref zP, .int 0, .int 0, .int 0, .ref zC, .ref zN, .ref zD])), (zP, .inl (cI, 7180, .inl (upd (upd (fun _ => 0) 7170 1) 7174 1))), (zC, .inl (cI, 2304, .inl (fun _ => 0))), (zN, .inl (cI, 2304, .inl (fun _ => 0))), (zD, .inl (cZ, 36, .inl (fun _ => 0)))] H := hP
              have hD : va_D A [(qM, .inr (4, [.int 0, .int (nI w), .int (nI h), .int 0, .ref zP, .int 0, .int 0, .int 0, .ref zC, .ref zN, .ref zD])), (zP, .inl (cI, 7180, .inl (upd (upd (fun _ => 0) 7170 1) 7174 1))), (zC, .inl (cI, 2304, .inl (fun _ => 0))), (zN, .inl (cI, 2304, .inl (fun _ => 0))), (zD, .inl (cZ, 36, .inl (fun _ => 0)))] := hD
              refine lv_iinc (v := nI 2) (lv' := [(3, .int (nI 2)), (0, .ref qM), (1, .int v1), (2, .int v2)]) hx hb dX4_init_115 hl (k := 0) rfl (nI_add 1 1) (by decide) rfl (fun ls hl => ?_)
              refine lv_goto (tgt := 95) hx hb dX4_init_118 (by decide) ?_
              refine lv_iload_n hx hb dX4_init_95 rfl (lv_at hl 0 rfl) ?_
              refine lv_iconst (v := 3) hx hb dX4_init_96 (by decide) ?_
              refine lv_icmp_ge (tgt := 121) hx hb dX4_init_97 (by decide) (fun c97_19 => ?_) (fun c97_19 => ?_)
              · exact absurd c97_19 (by decide)
              · refine lv_aload_n hx hb dX4_init_100 rfl (lv_at hl 1 rfl) ?_
                refine va_get (D := (dC, dI)) (ci := 4) (v := .ref zP) (C := RX4) (T := TX4) (N := 11) hx hb hts td_fX4 hown hK hP 0 rfl rfl 4 (by decide) (hts (.fieldLink RX4 7 "TileDeskModel" "pieces" "[I") (td_i12 (List.mem_of_getElem? (i := 3) rfl))) (fun _ h9 => h9) rfl dX4_init_101 ?_
                refine lv_sipush (v := 7168) hx hb dX4_init_104 (by decide) ?_
                refine lv_iconst (v := 4) hx hb dX4_init_107 (by decide) ?_
                refine lv_iload_n hx hb dX4_init_108 rfl (lv_at hl 0 rfl) ?_
                refine lv_imul hx hb dX4_init_109 ?_
                refine td_ti (nI (8)) (pk_mul 4 2) ?_
                refine lv_iadd hx hb dX4_init_110 ?_
                refine td_ti (nI (7176)) (nI_add 7168 8) ?_
                refine lv_iconst (v := 2) hx hb dX4_init_111 (by decide) ?_
                refine lv_iadd hx hb dX4_init_112 ?_
                refine td_ti (nI (7178)) (nI_add 7176 2) ?_
                refine lv_iconst (v := 1) hx hb dX4_init_113 (by decide) ?_
                refine td_iast hx hb hK hP hD hS 1 0 7178 rfl rfl rfl (by decide) (by decide) dX4_init_114 (fun H locs hP hD hS => ?_)
                have hP : va_P (dC, dI) vwCl [(qM, .inr (4, [.int 0, .int (nI w), .int (nI h), .int 0, .ref zP, .int 0, .int 0, .int 0, .ref zC, .ref zN, .ref zD])), (zP, .inl (cI, 7180, .inl (upd (upd (upd (fun _ => 0) 7170 1) 7174 1) 7178 1))), (zC, .inl (cI, 2304, .inl (fun _ => 0))), (zN, .inl (cI, 2304, .inl (fun _ => 0))), (zD, .inl (cZ, 36, .inl (fun _ => 0)))] H := hP
                have hD : va_D A [(qM, .inr (4, [.int 0, .int (nI w), .int (nI h), .int 0, .ref zP, .int 0, .int 0, .int 0, .ref zC, .ref zN, .ref zD])), (zP, .inl (cI, 7180, .inl (upd (upd (upd (fun _ => 0) 7170 1) 7174 1) 7178 1))), (zC, .inl (cI, 2304, .inl (fun _ => 0))), (zN, .inl (cI, 2304, .inl (fun _ => 0))), (zD, .inl (cZ, 36, .inl (fun _ => 0)))] := hD
                refine lv_iinc (v := nI 3) (lv' := [(3, .int (nI 3)), (0, .ref qM), (1, .int v1), (2, .int v2)]) hx hb dX4_init_115 hl (k := 0) rfl (nI_add 2 1) (by decide) rfl (fun ls hl => ?_)
                refine lv_goto (tgt := 95) hx hb dX4_init_118 (by decide) ?_
                refine lv_iload_n hx hb dX4_init_95 rfl (lv_at hl 0 rfl) ?_
                refine lv_iconst (v := 3) hx hb dX4_init_96 (by decide) ?_
                refine lv_icmp_ge (tgt := 121) hx hb dX4_init_97 (by decide) (fun c97_20 => ?_) (fun c97_20 => ?_)
                · have hP9 := hP.sub (ws' := [(qM, .inr (4, [.int 0, .int (nI w), .int (nI h), .int 0, .ref zP, .int 0, .int 0, .int 0, .ref zC, .ref zN, .ref zD])), (zP, .inl (cI, 7180, .inl (upd (upd (upd (fun _ => 0) 7170 1) 7174 1) 7178 1))), (zC, .inl (cI, 2304, .inl (fun _ => 0))), (zN, .inl (cI, 2304, .inl (fun _ => 0))), (zD, .inl (cZ, 36, .inl (fun _ => 0)))]) [0, 1, 2, 3, 4] rfl
                  have hD9 := hD.sub (ws' := [(qM, .inr (4, [.int 0, .int (nI w), .int (nI h), .int 0, .ref zP, .int 0, .int 0, .int 0, .ref zC, .ref zN, .ref zD])), (zP, .inl (cI, 7180, .inl (upd (upd (upd (fun _ => 0) 7170 1) 7174 1) 7178 1))), (zC, .inl (cI, 2304, .inl (fun _ => 0))), (zN, .inl (cI, 2304, .inl (fun _ => 0))), (zD, .inl (cZ, 36, .inl (fun _ => 0)))]) [0, 1, 2, 3, 4] (by decide) rfl
                  exact td_rwv (zP, zC, zN, zD) hx hb hr hlocks hK (trivial) hP9 hD9 hS dX4_init_121
                · exact absurd c97_20 (by decide)
      · refine lv_bipush (v := 8) hx hb dX4_init_73 (by decide) ?_
        refine lv_goto (tgt := 90) hx hb dX4_init_75 (by decide) ?_
        refine td_ti (nI h) (by rw [← e2, if_neg c70]) ?_
        refine va_putF (D := (dC, dI)) (ci := 4) (v := .int (nI h)) (ty := .int) (C := RX4) (T := TX4) (N := 11) hx hb hts td_fX4 tyX4 tyX4_ok nmX4 hown hK hP hD hS 0 rfl rfl 2 (by decide) (hts (.fieldLink RX4 27 "TileDeskModel" "height" "I") (td_i12 (List.mem_of_getElem? (i := 1) rfl))) (fun _ h9 => h9) rfl hin rfl (by decide +kernel) rfl rfl (Nat.le_of_ble_eq_true rfl) dX4_init_90 (fun H locs hP hD hS => ?_)
        have hP : va_P (dC, dI) vwCl [(qM, .inr (4, [.int 0, .int (nI w), .int (nI h), .int 0, .ref zP, .int 0, .int 0, .int 0, .ref zC, .ref zN, .ref zD])), (zP, .inl (cI, 7180, .inl (fun _ => 0))), (zC, .inl (cI, 2304, .inl (fun _ => 0))), (zN, .inl (cI, 2304, .inl (fun _ => 0))), (zD, .inl (cZ, 36, .inl (fun _ => 0)))] H := hP
        have hD : va_D A [(qM, .inr (4, [.int 0, .int (nI w), .int (nI h), .int 0, .ref zP, .int 0, .int 0, .int 0, .ref zC, .ref zN, .ref zD])), (zP, .inl (cI, 7180, .inl (fun _ => 0))), (zC, .inl (cI, 2304, .inl (fun _ => 0))), (zN, .inl (cI, 2304, .inl (fun _ => 0))), (zD, .inl (cZ, 36, .inl (fun _ => 0)))] := hD
        refine lv_iconst (v := 0) hx hb dX4_init_93 (by decide) ?_
        refine lv_istore_n (lv' := [(3, .int 0), (0, .ref qM), (1, .int v1), (2, .int v2)]) hx hb dX4_init_94 rfl hl (by decide) rfl (fun ls hl => ?_)
        refine lv_iload_n hx hb dX4_init_95 rfl (lv_at hl 0 rfl) ?_
        refine lv_iconst (v := 3) hx hb dX4_init_96 (by decide) ?_
        refine lv_icmp_ge (tgt := 121) hx hb dX4_init_97 (by decide) (fun c97_21 => ?_) (fun c97_21 => ?_)
        · exact absurd c97_21 (by decide)
        · refine lv_aload_n hx hb dX4_init_100 rfl (lv_at hl 1 rfl) ?_
          refine va_get (D := (dC, dI)) (ci := 4) (v := .ref zP) (C := RX4) (T := TX4) (N := 11) hx hb hts td_fX4 hown hK hP 0 rfl rfl 4 (by decide) (hts (.fieldLink RX4 7 "TileDeskModel" "pieces" "[I") (td_i12 (List.mem_of_getElem? (i := 3) rfl))) (fun _ h9 => h9) rfl dX4_init_101 ?_
          refine lv_sipush (v := 7168) hx hb dX4_init_104 (by decide) ?_
          refine lv_iconst (v := 4) hx hb dX4_init_107 (by decide) ?_
          refine lv_iload_n hx hb dX4_init_108 rfl (lv_at hl 0 rfl) ?_
          refine lv_imul hx hb dX4_init_109 ?_
          refine td_ti (nI (0)) (pk_mul 4 0) ?_
          refine lv_iadd hx hb dX4_init_110 ?_
          refine td_ti (nI (7168)) (nI_add 7168 0) ?_
          refine lv_iconst (v := 2) hx hb dX4_init_111 (by decide) ?_
          refine lv_iadd hx hb dX4_init_112 ?_
          refine td_ti (nI (7170)) (nI_add 7168 2) ?_
          refine lv_iconst (v := 1) hx hb dX4_init_113 (by decide) ?_
          refine td_iast hx hb hK hP hD hS 1 0 7170 rfl rfl rfl (by decide) (by decide) dX4_init_114 (fun H locs hP hD hS => ?_)
          have hP : va_P (dC, dI) vwCl [(qM, .inr (4, [.int 0, .int (nI w), .int (nI h), .int 0, .ref zP, .int 0, .int 0, .int 0, .ref zC, .ref zN, .ref zD])), (zP, .inl (cI, 7180, .inl (upd (fun _ => 0) 7170 1))), (zC, .inl (cI, 2304, .inl (fun _ => 0))), (zN, .inl (cI, 2304, .inl (fun _ => 0))), (zD, .inl (cZ, 36, .inl (fun _ => 0)))] H := hP
          have hD : va_D A [(qM, .inr (4, [.int 0, .int (nI w), .int (nI h), .int 0, .ref zP, .int 0, .int 0, .int 0, .ref zC, .ref zN, .ref zD])), (zP, .inl (cI, 7180, .inl (upd (fun _ => 0) 7170 1))), (zC, .inl (cI, 2304, .inl (fun _ => 0))), (zN, .inl (cI, 2304, .inl (fun _ => 0))), (zD, .inl (cZ, 36, .inl (fun _ => 0)))] := hD
          refine lv_iinc (v := nI 1) (lv' := [(3, .int (nI 1)), (0, .ref qM), (1, .int v1), (2, .int v2)]) hx hb dX4_init_115 hl (k := 0) rfl (nI_add 0 1) (by decide) rfl (fun ls hl => ?_)
          refine lv_goto (tgt := 95) hx hb dX4_init_118 (by decide) ?_
          refine lv_iload_n hx hb dX4_init_95 rfl (lv_at hl 0 rfl) ?_
          refine lv_iconst (v := 3) hx hb dX4_init_96 (by decide) ?_
          refine lv_icmp_ge (tgt := 121) hx hb dX4_init_97 (by decide) (fun c97_22 => ?_) (fun c97_22 => ?_)
          · exact absurd c97_22 (by decide)
          · refine lv_aload_n hx hb dX4_init_100 rfl (lv_at hl 1 rfl) ?_
            refine va_get (D := (dC, dI)) (ci := 4) (v := .ref zP) (C := RX4) (T := TX4) (N := 11) hx hb hts td_fX4 hown hK hP 0 rfl rfl 4 (by decide) (hts (.fieldLink RX4 7 "TileDeskModel" "pieces" "[I") (td_i12 (List.mem_of_getElem? (i := 3) rfl))) (fun _ h9 => h9) rfl dX4_init_101 ?_
            refine lv_sipush (v := 7168) hx hb dX4_init_104 (by decide) ?_
            refine lv_iconst (v := 4) hx hb dX4_init_107 (by decide) ?_
            refine lv_iload_n hx hb dX4_init_108 rfl (lv_at hl 0 rfl) ?_
            refine lv_imul hx hb dX4_init_109 ?_
            refine td_ti (nI (4)) (pk_mul 4 1) ?_
            refine lv_iadd hx hb dX4_init_110 ?_
            refine td_ti (nI (7172)) (nI_add 7168 4) ?_
            refine lv_iconst (v := 2) hx hb dX4_init_111 (by decide) ?_
            refine lv_iadd hx hb dX4_init_112 ?_
            refine td_ti (nI (7174)) (nI_add 7172 2) ?_
            refine lv_iconst (v := 1) hx hb dX4_init_113 (by decide) ?_
            refine td_iast hx hb hK hP hD hS 1 0 7174 rfl rfl rfl (by decide) (by decide) dX4_init_114 (fun H locs hP hD hS => ?_)
            have hP : va_P (dC, dI) vwCl [(qM, .inr (4, [.int 0, .int (nI w), .int (nI h), .int 0, .ref zP, .int 0, .int 0, .int 0, .ref zC, .ref zN, .ref zD])), (zP, .inl (cI, 7180, .inl (upd (upd (fun _ => 0) 7170 1) 7174 1))), (zC, .inl (cI, 2304, .inl (fun _ => 0))), (zN, .inl (cI, 2304, .inl (fun _ => 0))), (zD, .inl (cZ, 36, .inl (fun _ => 0)))] H := hP
            have hD : va_D A [(qM, .inr (4, [.int 0, .int (nI w), .int (nI h), .int 0, .ref zP, .int 0, .int 0, .int 0, .ref zC, .ref zN, .ref zD])), (zP, .inl (cI, 7180, .inl (upd (upd (fun _ => 0) 7170 1) 7174 1))), (zC, .inl (cI, 2304, .inl (fun _ => 0))), (zN, .inl (cI, 2304, .inl (fun _ => 0))), (zD, .inl (cZ, 36, .inl (fun _ => 0)))] := hD
            refine lv_iinc (v := nI 2) (lv' := [(3, .int (nI 2)), (0, .ref qM), (1, .int v1), (2, .int v2)]) hx hb dX4_init_115 hl (k := 0) rfl (nI_add 1 1) (by decide) rfl (fun ls hl => ?_)
            refine lv_goto (tgt := 95) hx hb dX4_init_118 (by decide) ?_
            refine lv_iload_n hx hb dX4_init_95 rfl (lv_at hl 0 rfl) ?_
            refine lv_iconst (v := 3) hx hb dX4_init_96 (by decide) ?_
            refine lv_icmp_ge (tgt := 121) hx hb dX4_init_97 (by decide) (fun c97_23 => ?_) (fun c97_23 => ?_)
            · exact absurd c97_23 (by decide)
            · refine lv_aload_n hx hb dX4_init_100 rfl (lv_at hl 1 rfl) ?_
              refine va_get (D := (dC, dI)) (ci := 4) (v := .ref zP) (C := RX4) (T := TX4) (N := 11) hx hb hts td_fX4 hown hK hP 0 rfl rfl 4 (by decide) (hts (.fieldLink RX4 7 "TileDeskModel" "pieces" "[I") (td_i12 (List.mem_of_getElem? (i := 3) rfl))) (fun _ h9 => h9) rfl dX4_init_101 ?_
              refine lv_sipush (v := 7168) hx hb dX4_init_104 (by decide) ?_
              refine lv_iconst (v := 4) hx hb dX4_init_107 (by decide) ?_
              refine lv_iload_n hx hb dX4_init_108 rfl (lv_at hl 0 rfl) ?_
              refine lv_imul hx hb dX4_init_109 ?_
              refine td_ti (nI (8)) (pk_mul 4 2) ?_
              refine lv_iadd hx hb dX4_init_110 ?_
              refine td_ti (nI (7176)) (nI_add 7168 8) ?_
              refine lv_iconst (v := 2) hx hb dX4_init_111 (by decide) ?_
              refine lv_iadd hx hb dX4_init_112 ?_
              refine td_ti (nI (7178)) (nI_add 7176 2) ?_
              refine lv_iconst (v := 1) hx hb dX4_init_113 (by decide) ?_
              refine td_iast hx hb hK hP hD hS 1 0 7178 rfl rfl rfl (by decide) (by decide) dX4_init_114 (fun H locs hP hD hS => ?_)
              have hP : va_P (dC, dI) vwCl [(qM, .inr (4, [.int 0, .int (nI w), .int (nI h), .int 0, .ref zP, .int 0, .int 0, .int 0, .ref zC, .ref zN, .ref zD])), (zP, .inl (cI, 7180, .inl (upd (upd (upd (fun _ => 0) 7170 1) 7174 1) 7178 1))), (zC, .inl (cI, 2304, .inl (fun _ => 0))), (zN, .inl (cI, 2304, .inl (fun _ => 0))), (zD, .inl (cZ, 36, .inl (fun _ => 0)))] H := hP
              have hD : va_D A [(qM, .inr (4, [.int 0, .int (nI w), .int (nI h), .int 0, .ref zP, .int 0, .int 0, .int 0, .ref zC, .ref zN, .ref zD])), (zP, .inl (cI, 7180, .inl (upd (upd (upd (fun _ => 0) 7170 1) 7174 1) 7178 1))), (zC, .inl (cI, 2304, .inl (fun _ => 0))), (zN, .inl (cI, 2304, .inl (fun _ => 0))), (zD, .inl (cZ, 36, .inl (fun _ => 0)))] := hD
              refine lv_iinc (v := nI 3) (lv' := [(3, .int (nI 3)), (0, .ref qM), (1, .int v1), (2, .int v2)]) hx hb dX4_init_115 hl (k := 0) rfl (nI_add 2 1) (by decide) rfl (fun ls hl => ?_)
              refine lv_goto (tgt := 95) hx hb dX4_init_118 (by decide) ?_
              refine lv_iload_n hx hb dX4_init_95 rfl (lv_at hl 0 rfl) ?_
              refine lv_iconst (v := 3) hx hb dX4_init_96 (by decide) ?_
              refine lv_icmp_ge (tgt := 121) hx hb dX4_init_97 (by decide) (fun c97_24 => ?_) (fun c97_24 => ?_)
              · have hP9 := hP.sub (ws' := [(qM, .inr (4, [.int 0, .int (nI w), .int (nI h), .int 0, .ref zP, .int 0, .int 0, .int 0, .ref zC, .ref zN, .ref zD])), (zP, .inl (cI, 7180, .inl (upd (upd (upd (fun _ => 0) 7170 1) 7174 1) 7178 1))), (zC, .inl (cI, 2304, .inl (fun _ => 0))), (zN, .inl (cI, 2304, .inl (fun _ => 0))), (zD, .inl (cZ, 36, .inl (fun _ => 0)))]) [0, 1, 2, 3, 4] rfl
                have hD9 := hD.sub (ws' := [(qM, .inr (4, [.int 0, .int (nI w), .int (nI h), .int 0, .ref zP, .int 0, .int 0, .int 0, .ref zC, .ref zN, .ref zD])), (zP, .inl (cI, 7180, .inl (upd (upd (upd (fun _ => 0) 7170 1) 7174 1) 7178 1))), (zC, .inl (cI, 2304, .inl (fun _ => 0))), (zN, .inl (cI, 2304, .inl (fun _ => 0))), (zD, .inl (cZ, 36, .inl (fun _ => 0)))]) [0, 1, 2, 3, 4] (by decide) rfl
                exact td_rwv (zP, zC, zN, zD) hx hb hr hlocks hK (trivial) hP9 hD9 hS dX4_init_121
              · exact absurd c97_24 (by decide)
  · refine lv_bipush (v := 8) hx hb dX4_init_46 (by decide) ?_
    refine lv_goto (tgt := 63) hx hb dX4_init_48 (by decide) ?_
    refine td_ti (nI w) (by rw [← e1, if_neg c43]) ?_
    refine va_putF (D := (dC, dI)) (ci := 4) (v := .int (nI w)) (ty := .int) (C := RX4) (T := TX4) (N := 11) hx hb hts td_fX4 tyX4 tyX4_ok nmX4 hown hK hP hD hS 0 rfl rfl 1 (by decide) (hts (.fieldLink RX4 23 "TileDeskModel" "width" "I") (td_i12 (List.mem_of_getElem? (i := 0) rfl))) (fun _ h9 => h9) rfl hin rfl (by decide +kernel) rfl rfl (Nat.le_of_ble_eq_true rfl) dX4_init_63 (fun H locs hP hD hS => ?_)
    have hP : va_P (dC, dI) vwCl [(qM, .inr (4, [.int 0, .int (nI w), .int 0, .int 0, .ref zP, .int 0, .int 0, .int 0, .ref zC, .ref zN, .ref zD])), (zP, .inl (cI, 7180, .inl (fun _ => 0))), (zC, .inl (cI, 2304, .inl (fun _ => 0))), (zN, .inl (cI, 2304, .inl (fun _ => 0))), (zD, .inl (cZ, 36, .inl (fun _ => 0)))] H := hP
    have hD : va_D A [(qM, .inr (4, [.int 0, .int (nI w), .int 0, .int 0, .ref zP, .int 0, .int 0, .int 0, .ref zC, .ref zN, .ref zD])), (zP, .inl (cI, 7180, .inl (fun _ => 0))), (zC, .inl (cI, 2304, .inl (fun _ => 0))), (zN, .inl (cI, 2304, .inl (fun _ => 0))), (zD, .inl (cZ, 36, .inl (fun _ => 0)))] := hD
    refine lv_aload_n hx hb dX4_init_66 rfl (lv_at hl 0 rfl) ?_
    refine lv_iload_n hx hb dX4_init_67 rfl (lv_at hl 2 rfl) ?_
    refine lv_bipush (v := 8) hx hb dX4_init_68 (by decide) ?_
    refine lv_icmp_ge (tgt := 78) hx hb dX4_init_70 (by decide) (fun c70 => ?_) (fun c70 => ?_)
    · refine lv_iload_n hx hb dX4_init_78 rfl (lv_at hl 2 rfl) ?_
      refine lv_bipush (v := 48) hx hb dX4_init_79 (by decide) ?_
      refine lv_icmp_le (tgt := 89) hx hb dX4_init_81 (by decide) (fun c81 => ?_) (fun c81 => ?_)
      · refine lv_iload_n hx hb dX4_init_89 rfl (lv_at hl 2 rfl) ?_
        refine td_ti (nI h) (by rw [← e2, if_pos c70, if_pos c81]) ?_
        refine va_putF (D := (dC, dI)) (ci := 4) (v := .int (nI h)) (ty := .int) (C := RX4) (T := TX4) (N := 11) hx hb hts td_fX4 tyX4 tyX4_ok nmX4 hown hK hP hD hS 0 rfl rfl 2 (by decide) (hts (.fieldLink RX4 27 "TileDeskModel" "height" "I") (td_i12 (List.mem_of_getElem? (i := 1) rfl))) (fun _ h9 => h9) rfl hin rfl (by decide +kernel) rfl rfl (Nat.le_of_ble_eq_true rfl) dX4_init_90 (fun H locs hP hD hS => ?_)
        have hP : va_P (dC, dI) vwCl [(qM, .inr (4, [.int 0, .int (nI w), .int (nI h), .int 0, .ref zP, .int 0, .int 0, .int 0, .ref zC, .ref zN, .ref zD])), (zP, .inl (cI, 7180, .inl (fun _ => 0))), (zC, .inl (cI, 2304, .inl (fun _ => 0))), (zN, .inl (cI, 2304, .inl (fun _ => 0))), (zD, .inl (cZ, 36, .inl (fun _ => 0)))] H := hP
        have hD : va_D A [(qM, .inr (4, [.int 0, .int (nI w), .int (nI h), .int 0, .ref zP, .int 0, .int 0, .int 0, .ref zC, .ref zN, .ref zD])), (zP, .inl (cI, 7180, .inl (fun _ => 0))), (zC, .inl (cI, 2304, .inl (fun _ => 0))), (zN, .inl (cI, 2304, .inl (fun _ => 0))), (zD, .inl (cZ, 36, .inl (fun _ => 0)))] := hD
        refine lv_iconst (v := 0) hx hb dX4_init_93 (by decide) ?_
        refine lv_istore_n (lv' := [(3, .int 0), (0, .ref qM), (1, .int v1), (2, .int v2)]) hx hb dX4_init_94 rfl hl (by decide) rfl (fun ls hl => ?_)
        refine lv_iload_n hx hb dX4_init_95 rfl (lv_at hl 0 rfl) ?_
        refine lv_iconst (v := 3) hx hb dX4_init_96 (by decide) ?_
        refine lv_icmp_ge (tgt := 121) hx hb dX4_init_97 (by decide) (fun c97_25 => ?_) (fun c97_25 => ?_)
        · exact absurd c97_25 (by decide)
        · refine lv_aload_n hx hb dX4_init_100 rfl (lv_at hl 1 rfl) ?_
          refine va_get (D := (dC, dI)) (ci := 4) (v := .ref zP) (C := RX4) (T := TX4) (N := 11) hx hb hts td_fX4 hown hK hP 0 rfl rfl 4 (by decide) (hts (.fieldLink RX4 7 "TileDeskModel" "pieces" "[I") (td_i12 (List.mem_of_getElem? (i := 3) rfl))) (fun _ h9 => h9) rfl dX4_init_101 ?_
          refine lv_sipush (v := 7168) hx hb dX4_init_104 (by decide) ?_
          refine lv_iconst (v := 4) hx hb dX4_init_107 (by decide) ?_
          refine lv_iload_n hx hb dX4_init_108 rfl (lv_at hl 0 rfl) ?_
          refine lv_imul hx hb dX4_init_109 ?_
          refine td_ti (nI (0)) (pk_mul 4 0) ?_
          refine lv_iadd hx hb dX4_init_110 ?_
          refine td_ti (nI (7168)) (nI_add 7168 0) ?_
          refine lv_iconst (v := 2) hx hb dX4_init_111 (by decide) ?_
          refine lv_iadd hx hb dX4_init_112 ?_
          refine td_ti (nI (7170)) (nI_add 7168 2) ?_
          refine lv_iconst (v := 1) hx hb dX4_init_113 (by decide) ?_
          refine td_iast hx hb hK hP hD hS 1 0 7170 rfl rfl rfl (by decide) (by decide) dX4_init_114 (fun H locs hP hD hS => ?_)
          have hP : va_P (dC, dI) vwCl [(qM, .inr (4, [.int 0, .int (nI w), .int (nI h), .int 0, .ref zP, .int 0, .int 0, .int 0, .ref zC, .ref zN, .ref zD])), (zP, .inl (cI, 7180, .inl (upd (fun _ => 0) 7170 1))), (zC, .inl (cI, 2304, .inl (fun _ => 0))), (zN, .inl (cI, 2304, .inl (fun _ => 0))), (zD, .inl (cZ, 36, .inl (fun _ => 0)))] H := hP
          have hD : va_D A [(qM, .inr (4, [.int 0, .int (nI w), .int (nI h), .int 0, .ref zP, .int 0, .int 0, .int 0, .ref zC, .ref zN, .ref zD])), (zP, .inl (cI, 7180, .inl (upd (fun _ => 0) 7170 1))), (zC, .inl (cI, 2304, .inl (fun _ => 0))), (zN, .inl (cI, 2304, .inl (fun _ => 0))), (zD, .inl (cZ, 36, .inl (fun _ => 0)))] := hD
          refine lv_iinc (v := nI 1) (lv' := [(3, .int (nI 1)), (0, .ref qM), (1, .int v1), (2, .int v2)]) hx hb dX4_init_115 hl (k := 0) rfl (nI_add 0 1) (by decide) rfl (fun ls hl => ?_)
          refine lv_goto (tgt := 95) hx hb dX4_init_118 (by decide) ?_
          refine lv_iload_n hx hb dX4_init_95 rfl (lv_at hl 0 rfl) ?_
          refine lv_iconst (v := 3) hx hb dX4_init_96 (by decide) ?_
          refine lv_icmp_ge (tgt := 121) hx hb dX4_init_97 (by decide) (fun c97_26 => ?_) (fun c97_26 => ?_)
          · exact absurd c97_26 (by decide)
          · refine lv_aload_n hx hb dX4_init_100 rfl (lv_at hl 1 rfl) ?_
            refine va_get (D := (dC, dI)) (ci := 4) (v := .ref zP) (C := RX4) (T := TX4) (N := 11) hx hb hts td_fX4 hown hK hP 0 rfl rfl 4 (by decide) (hts (.fieldLink RX4 7 "TileDeskModel" "pieces" "[I") (td_i12 (List.mem_of_getElem? (i := 3) rfl))) (fun _ h9 => h9) rfl dX4_init_101 ?_
            refine lv_sipush (v := 7168) hx hb dX4_init_104 (by decide) ?_
            refine lv_iconst (v := 4) hx hb dX4_init_107 (by decide) ?_
            refine lv_iload_n hx hb dX4_init_108 rfl (lv_at hl 0 rfl) ?_
            refine lv_imul hx hb dX4_init_109 ?_
            refine td_ti (nI (4)) (pk_mul 4 1) ?_
            refine lv_iadd hx hb dX4_init_110 ?_
            refine td_ti (nI (7172)) (nI_add 7168 4) ?_
            refine lv_iconst (v := 2) hx hb dX4_init_111 (by decide) ?_
            refine lv_iadd hx hb dX4_init_112 ?_
            refine td_ti (nI (7174)) (nI_add 7172 2) ?_
            refine lv_iconst (v := 1) hx hb dX4_init_113 (by decide) ?_
            refine td_iast hx hb hK hP hD hS 1 0 7174 rfl rfl rfl (by decide) (by decide) dX4_init_114 (fun H locs hP hD hS => ?_)
            have hP : va_P (dC, dI) vwCl [(qM, .inr (4, [.int 0, .int (nI w), .int (nI h), .int 0, .ref zP, .int 0, .int 0, .int 0, .ref zC, .ref zN, .ref zD])), (zP, .inl (cI, 7180, .inl (upd (upd (fun _ => 0) 7170 1) 7174 1))), (zC, .inl (cI, 2304, .inl (fun _ => 0))), (zN, .inl (cI, 2304, .inl (fun _ => 0))), (zD, .inl (cZ, 36, .inl (fun _ => 0)))] H := hP
            have hD : va_D A [(qM, .inr (4, [.int 0, .int (nI w), .int (nI h), .int 0, .ref zP, .int 0, .int 0, .int 0, .ref zC, .ref zN, .ref zD])), (zP, .inl (cI, 7180, .inl (upd (upd (fun _ => 0) 7170 1) 7174 1))), (zC, .inl (cI, 2304, .inl (fun _ => 0))), (zN, .inl (cI, 2304, .inl (fun _ => 0))), (zD, .inl (cZ, 36, .inl (fun _ => 0)))] := hD
            refine lv_iinc (v := nI 2) (lv' := [(3, .int (nI 2)), (0, .ref qM), (1, .int v1), (2, .int v2)]) hx hb dX4_init_115 hl (k := 0) rfl (nI_add 1 1) (by decide) rfl (fun ls hl => ?_)
            refine lv_goto (tgt := 95) hx hb dX4_init_118 (by decide) ?_
            refine lv_iload_n hx hb dX4_init_95 rfl (lv_at hl 0 rfl) ?_
            refine lv_iconst (v := 3) hx hb dX4_init_96 (by decide) ?_
            refine lv_icmp_ge (tgt := 121) hx hb dX4_init_97 (by decide) (fun c97_27 => ?_) (fun c97_27 => ?_)
            · exact absurd c97_27 (by decide)
            · refine lv_aload_n hx hb dX4_init_100 rfl (lv_at hl 1 rfl) ?_
              refine va_get (D := (dC, dI)) (ci := 4) (v := .ref zP) (C := RX4) (T := TX4) (N := 11) hx hb hts td_fX4 hown hK hP 0 rfl rfl 4 (by decide) (hts (.fieldLink RX4 7 "TileDeskModel" "pieces" "[I") (td_i12 (List.mem_of_getElem? (i := 3) rfl))) (fun _ h9 => h9) rfl dX4_init_101 ?_
              refine lv_sipush (v := 7168) hx hb dX4_init_104 (by decide) ?_
              refine lv_iconst (v := 4) hx hb dX4_init_107 (by decide) ?_
              refine lv_iload_n hx hb dX4_init_108 rfl (lv_at hl 0 rfl) ?_
              refine lv_imul hx hb dX4_init_109 ?_
              refine td_ti (nI (8)) (pk_mul 4 2) ?_
              refine lv_iadd hx hb dX4_init_110 ?_
              refine td_ti (nI (7176)) (nI_add 7168 8) ?_
              refine lv_iconst (v := 2) hx hb dX4_init_111 (by decide) ?_
              refine lv_iadd hx hb dX4_init_112 ?_
              refine td_ti (nI (7178)) (nI_add 7176 2) ?_
              refine lv_iconst (v := 1) hx hb dX4_init_113 (by decide) ?_
              refine td_iast hx hb hK hP hD hS 1 0 7178 rfl rfl rfl (by decide) (by decide) dX4_init_114 (fun H locs hP hD hS => ?_)
              have hP : va_P (dC, dI) vwCl [(qM, .inr (4, [.int 0, .int (nI w), .int (nI h), .int 0, .ref zP, .int 0, .int 0, .int 0, .ref zC, .ref zN, .ref zD])), (zP, .inl (cI, 7180, .inl (upd (upd (upd (fun _ => 0) 7170 1) 7174 1) 7178 1))), (zC, .inl (cI, 2304, .inl (fun _ => 0))), (zN, .inl (cI, 2304, .inl (fun _ => 0))), (zD, .inl (cZ, 36, .inl (fun _ => 0)))] H := hP
              have hD : va_D A [(qM, .inr (4, [.int 0, .int (nI w), .int (nI h), .int 0, .ref zP, .int 0, .int 0, .int 0, .ref zC, .ref zN, .ref zD])), (zP, .inl (cI, 7180, .inl (upd (upd (upd (fun _ => 0) 7170 1) 7174 1) 7178 1))), (zC, .inl (cI, 2304, .inl (fun _ => 0))), (zN, .inl (cI, 2304, .inl (fun _ => 0))), (zD, .inl (cZ, 36, .inl (fun _ => 0)))] := hD
              refine lv_iinc (v := nI 3) (lv' := [(3, .int (nI 3)), (0, .ref qM), (1, .int v1), (2, .int v2)]) hx hb dX4_init_115 hl (k := 0) rfl (nI_add 2 1) (by decide) rfl (fun ls hl => ?_)
              refine lv_goto (tgt := 95) hx hb dX4_init_118 (by decide) ?_
              refine lv_iload_n hx hb dX4_init_95 rfl (lv_at hl 0 rfl) ?_
              refine lv_iconst (v := 3) hx hb dX4_init_96 (by decide) ?_
              refine lv_icmp_ge (tgt := 121) hx hb dX4_init_97 (by decide) (fun c97_28 => ?_) (fun c97_28 => ?_)
              · have hP9 := hP.sub (ws' := [(qM, .inr (4, [.int 0, .int (nI w), .int (nI h), .int 0, .ref zP, .int 0, .int 0, .int 0, .ref zC, .ref zN, .ref zD])), (zP, .inl (cI, 7180, .inl (upd (upd (upd (fun _ => 0) 7170 1) 7174 1) 7178 1))), (zC, .inl (cI, 2304, .inl (fun _ => 0))), (zN, .inl (cI, 2304, .inl (fun _ => 0))), (zD, .inl (cZ, 36, .inl (fun _ => 0)))]) [0, 1, 2, 3, 4] rfl
                have hD9 := hD.sub (ws' := [(qM, .inr (4, [.int 0, .int (nI w), .int (nI h), .int 0, .ref zP, .int 0, .int 0, .int 0, .ref zC, .ref zN, .ref zD])), (zP, .inl (cI, 7180, .inl (upd (upd (upd (fun _ => 0) 7170 1) 7174 1) 7178 1))), (zC, .inl (cI, 2304, .inl (fun _ => 0))), (zN, .inl (cI, 2304, .inl (fun _ => 0))), (zD, .inl (cZ, 36, .inl (fun _ => 0)))]) [0, 1, 2, 3, 4] (by decide) rfl
                exact td_rwv (zP, zC, zN, zD) hx hb hr hlocks hK (trivial) hP9 hD9 hS dX4_init_121
              · exact absurd c97_28 (by decide)
      · refine lv_bipush (v := 48) hx hb dX4_init_84 (by decide) ?_
        refine lv_goto (tgt := 90) hx hb dX4_init_86 (by decide) ?_
        refine td_ti (nI h) (by rw [← e2, if_pos c70, if_neg c81]) ?_
        refine va_putF (D := (dC, dI)) (ci := 4) (v := .int (nI h)) (ty := .int) (C := RX4) (T := TX4) (N := 11) hx hb hts td_fX4 tyX4 tyX4_ok nmX4 hown hK hP hD hS 0 rfl rfl 2 (by decide) (hts (.fieldLink RX4 27 "TileDeskModel" "height" "I") (td_i12 (List.mem_of_getElem? (i := 1) rfl))) (fun _ h9 => h9) rfl hin rfl (by decide +kernel) rfl rfl (Nat.le_of_ble_eq_true rfl) dX4_init_90 (fun H locs hP hD hS => ?_)
        have hP : va_P (dC, dI) vwCl [(qM, .inr (4, [.int 0, .int (nI w), .int (nI h), .int 0, .ref zP, .int 0, .int 0, .int 0, .ref zC, .ref zN, .ref zD])), (zP, .inl (cI, 7180, .inl (fun _ => 0))), (zC, .inl (cI, 2304, .inl (fun _ => 0))), (zN, .inl (cI, 2304, .inl (fun _ => 0))), (zD, .inl (cZ, 36, .inl (fun _ => 0)))] H := hP
        have hD : va_D A [(qM, .inr (4, [.int 0, .int (nI w), .int (nI h), .int 0, .ref zP, .int 0, .int 0, .int 0, .ref zC, .ref zN, .ref zD])), (zP, .inl (cI, 7180, .inl (fun _ => 0))), (zC, .inl (cI, 2304, .inl (fun _ => 0))), (zN, .inl (cI, 2304, .inl (fun _ => 0))), (zD, .inl (cZ, 36, .inl (fun _ => 0)))] := hD
        refine lv_iconst (v := 0) hx hb dX4_init_93 (by decide) ?_
        refine lv_istore_n (lv' := [(3, .int 0), (0, .ref qM), (1, .int v1), (2, .int v2)]) hx hb dX4_init_94 rfl hl (by decide) rfl (fun ls hl => ?_)
        refine lv_iload_n hx hb dX4_init_95 rfl (lv_at hl 0 rfl) ?_
        refine lv_iconst (v := 3) hx hb dX4_init_96 (by decide) ?_
        refine lv_icmp_ge (tgt := 121) hx hb dX4_init_97 (by decide) (fun c97_29 => ?_) (fun c97_29 => ?_)
        · exact absurd c97_29 (by decide)
        · refine lv_aload_n hx hb dX4_init_100 rfl (lv_at hl 1 rfl) ?_
          refine va_get (D := (dC, dI)) (ci := 4) (v := .ref zP) (C := RX4) (T := TX4) (N := 11) hx hb hts td_fX4 hown hK hP 0 rfl rfl 4 (by decide) (hts (.fieldLink RX4 7 "TileDeskModel" "pieces" "[I") (td_i12 (List.mem_of_getElem? (i := 3) rfl))) (fun _ h9 => h9) rfl dX4_init_101 ?_
          refine lv_sipush (v := 7168) hx hb dX4_init_104 (by decide) ?_
          refine lv_iconst (v := 4) hx hb dX4_init_107 (by decide) ?_
          refine lv_iload_n hx hb dX4_init_108 rfl (lv_at hl 0 rfl) ?_
          refine lv_imul hx hb dX4_init_109 ?_
          refine td_ti (nI (0)) (pk_mul 4 0) ?_
          refine lv_iadd hx hb dX4_init_110 ?_
          refine td_ti (nI (7168)) (nI_add 7168 0) ?_
          refine lv_iconst (v := 2) hx hb dX4_init_111 (by decide) ?_
          refine lv_iadd hx hb dX4_init_112 ?_
          refine td_ti (nI (7170)) (nI_add 7168 2) ?_
          refine lv_iconst (v := 1) hx hb dX4_init_113 (by decide) ?_
          refine td_iast hx hb hK hP hD hS 1 0 7170 rfl rfl rfl (by decide) (by decide) dX4_init_114 (fun H locs hP hD hS => ?_)
          have hP : va_P (dC, dI) vwCl [(qM, .inr (4, [.int 0, .int (nI w), .int (nI h), .int 0, .ref zP, .int 0, .int 0, .int 0, .ref zC, .ref zN, .ref zD])), (zP, .inl (cI, 7180, .inl (upd (fun _ => 0) 7170 1))), (zC, .inl (cI, 2304, .inl (fun _ => 0))), (zN, .inl (cI, 2304, .inl (fun _ => 0))), (zD, .inl (cZ, 36, .inl (fun _ => 0)))] H := hP
          have hD : va_D A [(qM, .inr (4, [.int 0, .int (nI w), .int (nI h), .int 0, .ref zP, .int 0, .int 0, .int 0, .ref zC, .ref zN, .ref zD])), (zP, .inl (cI, 7180, .inl (upd (fun _ => 0) 7170 1))), (zC, .inl (cI, 2304, .inl (fun _ => 0))), (zN, .inl (cI, 2304, .inl (fun _ => 0))), (zD, .inl (cZ, 36, .inl (fun _ => 0)))] := hD
          refine lv_iinc (v := nI 1) (lv' := [(3, .int (nI 1)), (0, .ref qM), (1, .int v1), (2, .int v2)]) hx hb dX4_init_115 hl (k := 0) rfl (nI_add 0 1) (by decide) rfl (fun ls hl => ?_)
          refine lv_goto (tgt := 95) hx hb dX4_init_118 (by decide) ?_
          refine lv_iload_n hx hb dX4_init_95 rfl (lv_at hl 0 rfl) ?_
          refine lv_iconst (v := 3) hx hb dX4_init_96 (by decide) ?_
          refine lv_icmp_ge (tgt := 121) hx hb dX4_init_97 (by decide) (fun c97_30 => ?_) (fun c97_30 => ?_)
          · exact absurd c97_30 (by decide)
          · refine lv_aload_n hx hb dX4_init_100 rfl (lv_at hl 1 rfl) ?_
            refine va_get (D := (dC, dI)) (ci := 4) (v := .ref zP) (C := RX4) (T := TX4) (N := 11) hx hb hts td_fX4 hown hK hP 0 rfl rfl 4 (by decide) (hts (.fieldLink RX4 7 "TileDeskModel" "pieces" "[I") (td_i12 (List.mem_of_getElem? (i := 3) rfl))) (fun _ h9 => h9) rfl dX4_init_101 ?_
            refine lv_sipush (v := 7168) hx hb dX4_init_104 (by decide) ?_
            refine lv_iconst (v := 4) hx hb dX4_init_107 (by decide) ?_
            refine lv_iload_n hx hb dX4_init_108 rfl (lv_at hl 0 rfl) ?_
            refine lv_imul hx hb dX4_init_109 ?_
            refine td_ti (nI (4)) (pk_mul 4 1) ?_
            refine lv_iadd hx hb dX4_init_110 ?_
            refine td_ti (nI (7172)) (nI_add 7168 4) ?_
            refine lv_iconst (v := 2) hx hb dX4_init_111 (by decide) ?_
            refine lv_iadd hx hb dX4_init_112 ?_
            refine td_ti (nI (7174)) (nI_add 7172 2) ?_
            refine lv_iconst (v := 1) hx hb dX4_init_113 (by decide) ?_
            refine td_iast hx hb hK hP hD hS 1 0 7174 rfl rfl rfl (by decide) (by decide) dX4_init_114 (fun H locs hP hD hS => ?_)
            have hP : va_P (dC, dI) vwCl [(qM, .inr (4, [.int 0, .int (nI w), .int (nI h), .int 0, .ref zP, .int 0, .int 0, .int 0, .ref zC, .ref zN, .ref zD])), (zP, .inl (cI, 7180, .inl (upd (upd (fun _ => 0) 7170 1) 7174 1))), (zC, .inl (cI, 2304, .inl (fun _ => 0))), (zN, .inl (cI, 2304, .inl (fun _ => 0))), (zD, .inl (cZ, 36, .inl (fun _ => 0)))] H := hP
            have hD : va_D A [(qM, .inr (4, [.int 0, .int (nI w), .int (nI h), .int 0, .ref zP, .int 0, .int 0, .int 0, .ref zC, .ref zN, .ref zD])), (zP, .inl (cI, 7180, .inl (upd (upd (fun _ => 0) 7170 1) 7174 1))), (zC, .inl (cI, 2304, .inl (fun _ => 0))), (zN, .inl (cI, 2304, .inl (fun _ => 0))), (zD, .inl (cZ, 36, .inl (fun _ => 0)))] := hD
            refine lv_iinc (v := nI 2) (lv' := [(3, .int (nI 2)), (0, .ref qM), (1, .int v1), (2, .int v2)]) hx hb dX4_init_115 hl (k := 0) rfl (nI_add 1 1) (by decide) rfl (fun ls hl => ?_)
            refine lv_goto (tgt := 95) hx hb dX4_init_118 (by decide) ?_
            refine lv_iload_n hx hb dX4_init_95 rfl (lv_at hl 0 rfl) ?_
            refine lv_iconst (v := 3) hx hb dX4_init_96 (by decide) ?_
            refine lv_icmp_ge (tgt := 121) hx hb dX4_init_97 (by decide) (fun c97_31 => ?_) (fun c97_31 => ?_)
            · exact absurd c97_31 (by decide)
            · refine lv_aload_n hx hb dX4_init_100 rfl (lv_at hl 1 rfl) ?_
              refine va_get (D := (dC, dI)) (ci := 4) (v := .ref zP) (C := RX4) (T := TX4) (N := 11) hx hb hts td_fX4 hown hK hP 0 rfl rfl 4 (by decide) (hts (.fieldLink RX4 7 "TileDeskModel" "pieces" "[I") (td_i12 (List.mem_of_getElem? (i := 3) rfl))) (fun _ h9 => h9) rfl dX4_init_101 ?_
              refine lv_sipush (v := 7168) hx hb dX4_init_104 (by decide) ?_
              refine lv_iconst (v := 4) hx hb dX4_init_107 (by decide) ?_
              refine lv_iload_n hx hb dX4_init_108 rfl (lv_at hl 0 rfl) ?_
              refine lv_imul hx hb dX4_init_109 ?_
              refine td_ti (nI (8)) (pk_mul 4 2) ?_
              refine lv_iadd hx hb dX4_init_110 ?_
              refine td_ti (nI (7176)) (nI_add 7168 8) ?_
              refine lv_iconst (v := 2) hx hb dX4_init_111 (by decide) ?_
              refine lv_iadd hx hb dX4_init_112 ?_
              refine td_ti (nI (7178)) (nI_add 7176 2) ?_
              refine lv_iconst (v := 1) hx hb dX4_init_113 (by decide) ?_
              refine td_iast hx hb hK hP hD hS 1 0 7178 rfl rfl rfl (by decide) (by decide) dX4_init_114 (fun H locs hP hD hS => ?_)
              have hP : va_P (dC, dI) vwCl [(qM, .inr (4, [.int 0, .int (nI w), .int (nI h), .int 0, .ref zP, .int 0, .int 0, .int 0, .ref zC, .ref zN, .ref zD])), (zP, .inl (cI, 7180, .inl (upd (upd (upd (fun _ => 0) 7170 1) 7174 1) 7178 1))), (zC, .inl (cI, 2304, .inl (fun _ => 0))), (zN, .inl (cI, 2304, .inl (fun _ => 0))), (zD, .inl (cZ, 36, .inl (fun _ => 0)))] H := hP
              have hD : va_D A [(qM, .inr (4, [.int 0, .int (nI w), .int (nI h), .int 0, .ref zP, .int 0, .int 0, .int 0, .ref zC, .ref zN, .ref zD])), (zP, .inl (cI, 7180, .inl (upd (upd (upd (fun _ => 0) 7170 1) 7174 1) 7178 1))), (zC, .inl (cI, 2304, .inl (fun _ => 0))), (zN, .inl (cI, 2304, .inl (fun _ => 0))), (zD, .inl (cZ, 36, .inl (fun _ => 0)))] := hD
              refine lv_iinc (v := nI 3) (lv' := [(3, .int (nI 3)), (0, .ref qM), (1, .int v1), (2, .int v2)]) hx hb dX4_init_115 hl (k := 0) rfl (nI_add 2 1) (by decide) rfl (fun ls hl => ?_)
              refine lv_goto (tgt := 95) hx hb dX4_init_118 (by decide) ?_
              refine lv_iload_n hx hb dX4_init_95 rfl (lv_at hl 0 rfl) ?_
              refine lv_iconst (v := 3) hx hb dX4_init_96 (by decide) ?_
              refine lv_icmp_ge (tgt := 121) hx hb dX4_init_97 (by decide) (fun c97_32 => ?_) (fun c97_32 => ?_)
              · have hP9 := hP.sub (ws' := [(qM, .inr (4, [.int 0, .int (nI w), .int (nI h), .int 0, .ref zP, .int 0, .int 0, .int 0, .ref zC, .ref zN, .ref zD])), (zP, .inl (cI, 7180, .inl (upd (upd (upd (fun _ => 0) 7170 1) 7174 1) 7178 1))), (zC, .inl (cI, 2304, .inl (fun _ => 0))), (zN, .inl (cI, 2304, .inl (fun _ => 0))), (zD, .inl (cZ, 36, .inl (fun _ => 0)))]) [0, 1, 2, 3, 4] rfl
                have hD9 := hD.sub (ws' := [(qM, .inr (4, [.int 0, .int (nI w), .int (nI h), .int 0, .ref zP, .int 0, .int 0, .int 0, .ref zC, .ref zN, .ref zD])), (zP, .inl (cI, 7180, .inl (upd (upd (upd (fun _ => 0) 7170 1) 7174 1) 7178 1))), (zC, .inl (cI, 2304, .inl (fun _ => 0))), (zN, .inl (cI, 2304, .inl (fun _ => 0))), (zD, .inl (cZ, 36, .inl (fun _ => 0)))]) [0, 1, 2, 3, 4] (by decide) rfl
                exact td_rwv (zP, zC, zN, zD) hx hb hr hlocks hK (trivial) hP9 hD9 hS dX4_init_121
              · exact absurd c97_32 (by decide)
    · refine lv_bipush (v := 8) hx hb dX4_init_73 (by decide) ?_
      refine lv_goto (tgt := 90) hx hb dX4_init_75 (by decide) ?_
      refine td_ti (nI h) (by rw [← e2, if_neg c70]) ?_
      refine va_putF (D := (dC, dI)) (ci := 4) (v := .int (nI h)) (ty := .int) (C := RX4) (T := TX4) (N := 11) hx hb hts td_fX4 tyX4 tyX4_ok nmX4 hown hK hP hD hS 0 rfl rfl 2 (by decide) (hts (.fieldLink RX4 27 "TileDeskModel" "height" "I") (td_i12 (List.mem_of_getElem? (i := 1) rfl))) (fun _ h9 => h9) rfl hin rfl (by decide +kernel) rfl rfl (Nat.le_of_ble_eq_true rfl) dX4_init_90 (fun H locs hP hD hS => ?_)
      have hP : va_P (dC, dI) vwCl [(qM, .inr (4, [.int 0, .int (nI w), .int (nI h), .int 0, .ref zP, .int 0, .int 0, .int 0, .ref zC, .ref zN, .ref zD])), (zP, .inl (cI, 7180, .inl (fun _ => 0))), (zC, .inl (cI, 2304, .inl (fun _ => 0))), (zN, .inl (cI, 2304, .inl (fun _ => 0))), (zD, .inl (cZ, 36, .inl (fun _ => 0)))] H := hP
      have hD : va_D A [(qM, .inr (4, [.int 0, .int (nI w), .int (nI h), .int 0, .ref zP, .int 0, .int 0, .int 0, .ref zC, .ref zN, .ref zD])), (zP, .inl (cI, 7180, .inl (fun _ => 0))), (zC, .inl (cI, 2304, .inl (fun _ => 0))), (zN, .inl (cI, 2304, .inl (fun _ => 0))), (zD, .inl (cZ, 36, .inl (fun _ => 0)))] := hD
      refine lv_iconst (v := 0) hx hb dX4_init_93 (by decide) ?_
      refine lv_istore_n (lv' := [(3, .int 0), (0, .ref qM), (1, .int v1), (2, .int v2)]) hx hb dX4_init_94 rfl hl (by decide) rfl (fun ls hl => ?_)
      refine lv_iload_n hx hb dX4_init_95 rfl (lv_at hl 0 rfl) ?_
      refine lv_iconst (v := 3) hx hb dX4_init_96 (by decide) ?_
      refine lv_icmp_ge (tgt := 121) hx hb dX4_init_97 (by decide) (fun c97_33 => ?_) (fun c97_33 => ?_)
      · exact absurd c97_33 (by decide)
      · refine lv_aload_n hx hb dX4_init_100 rfl (lv_at hl 1 rfl) ?_
        refine va_get (D := (dC, dI)) (ci := 4) (v := .ref zP) (C := RX4) (T := TX4) (N := 11) hx hb hts td_fX4 hown hK hP 0 rfl rfl 4 (by decide) (hts (.fieldLink RX4 7 "TileDeskModel" "pieces" "[I") (td_i12 (List.mem_of_getElem? (i := 3) rfl))) (fun _ h9 => h9) rfl dX4_init_101 ?_
        refine lv_sipush (v := 7168) hx hb dX4_init_104 (by decide) ?_
        refine lv_iconst (v := 4) hx hb dX4_init_107 (by decide) ?_
        refine lv_iload_n hx hb dX4_init_108 rfl (lv_at hl 0 rfl) ?_
        refine lv_imul hx hb dX4_init_109 ?_
        refine td_ti (nI (0)) (pk_mul 4 0) ?_
        refine lv_iadd hx hb dX4_init_110 ?_
        refine td_ti (nI (7168)) (nI_add 7168 0) ?_
        refine lv_iconst (v := 2) hx hb dX4_init_111 (by decide) ?_
        refine lv_iadd hx hb dX4_init_112 ?_
        refine td_ti (nI (7170)) (nI_add 7168 2) ?_
        refine lv_iconst (v := 1) hx hb dX4_init_113 (by decide) ?_
        refine td_iast hx hb hK hP hD hS 1 0 7170 rfl rfl rfl (by decide) (by decide) dX4_init_114 (fun H locs hP hD hS => ?_)
        have hP : va_P (dC, dI) vwCl [(qM, .inr (4, [.int 0, .int (nI w), .int (nI h), .int 0, .ref zP, .int 0, .int 0, .int 0, .ref zC, .ref zN, .ref zD])), (zP, .inl (cI, 7180, .inl (upd (fun _ => 0) 7170 1))), (zC, .inl (cI, 2304, .inl (fun _ => 0))), (zN, .inl (cI, 2304, .inl (fun _ => 0))), (zD, .inl (cZ, 36, .inl (fun _ => 0)))] H := hP
        have hD : va_D A [(qM, .inr (4, [.int 0, .int (nI w), .int (nI h), .int 0, .ref zP, .int 0, .int 0, .int 0, .ref zC, .ref zN, .ref zD])), (zP, .inl (cI, 7180, .inl (upd (fun _ => 0) 7170 1))), (zC, .inl (cI, 2304, .inl (fun _ => 0))), (zN, .inl (cI, 2304, .inl (fun _ => 0))), (zD, .inl (cZ, 36, .inl (fun _ => 0)))] := hD
        refine lv_iinc (v := nI 1) (lv' := [(3, .int (nI 1)), (0, .ref qM), (1, .int v1), (2, .int v2)]) hx hb dX4_init_115 hl (k := 0) rfl (nI_add 0 1) (by decide) rfl (fun ls hl => ?_)
        refine lv_goto (tgt := 95) hx hb dX4_init_118 (by decide) ?_
        refine lv_iload_n hx hb dX4_init_95 rfl (lv_at hl 0 rfl) ?_
        refine lv_iconst (v := 3) hx hb dX4_init_96 (by decide) ?_
        refine lv_icmp_ge (tgt := 121) hx hb dX4_init_97 (by decide) (fun c97_34 => ?_) (fun c97_34 => ?_)
        · exact absurd c97_34 (by decide)
        · refine lv_aload_n hx hb dX4_init_100 rfl (lv_at hl 1 rfl) ?_
          refine va_get (D := (dC, dI)) (ci := 4) (v := .ref zP) (C := RX4) (T := TX4) (N := 11) hx hb hts td_fX4 hown hK hP 0 rfl rfl 4 (by decide) (hts (.fieldLink RX4 7 "TileDeskModel" "pieces" "[I") (td_i12 (List.mem_of_getElem? (i := 3) rfl))) (fun _ h9 => h9) rfl dX4_init_101 ?_
          refine lv_sipush (v := 7168) hx hb dX4_init_104 (by decide) ?_
          refine lv_iconst (v := 4) hx hb dX4_init_107 (by decide) ?_
          refine lv_iload_n hx hb dX4_init_108 rfl (lv_at hl 0 rfl) ?_
          refine lv_imul hx hb dX4_init_109 ?_
          refine td_ti (nI (4)) (pk_mul 4 1) ?_
          refine lv_iadd hx hb dX4_init_110 ?_
          refine td_ti (nI (7172)) (nI_add 7168 4) ?_
          refine lv_iconst (v := 2) hx hb dX4_init_111 (by decide) ?_
          refine lv_iadd hx hb dX4_init_112 ?_
          refine td_ti (nI (7174)) (nI_add 7172 2) ?_
          refine lv_iconst (v := 1) hx hb dX4_init_113 (by decide) ?_
          refine td_iast hx hb hK hP hD hS 1 0 7174 rfl rfl rfl (by decide) (by decide) dX4_init_114 (fun H locs hP hD hS => ?_)
          have hP : va_P (dC, dI) vwCl [(qM, .inr (4, [.int 0, .int (nI w), .int (nI h), .int 0, .ref zP, .int 0, .int 0, .int 0, .ref zC, .ref zN, .ref zD])), (zP, .inl (cI, 7180, .inl (upd (upd (fun _ => 0) 7170 1) 7174 1))), (zC, .inl (cI, 2304, .inl (fun _ => 0))), (zN, .inl (cI, 2304, .inl (fun _ => 0))), (zD, .inl (cZ, 36, .inl (fun _ => 0)))] H := hP
          have hD : va_D A [(qM, .inr (4, [.int 0, .int (nI w), .int (nI h), .int 0, .ref zP, .int 0, .int 0, .int 0, .ref zC, .ref zN, .ref zD])), (zP, .inl (cI, 7180, .inl (upd (upd (fun _ => 0) 7170 1) 7174 1))), (zC, .inl (cI, 2304, .inl (fun _ => 0))), (zN, .inl (cI, 2304, .inl (fun _ => 0))), (zD, .inl (cZ, 36, .inl (fun _ => 0)))] := hD
          refine lv_iinc (v := nI 2) (lv' := [(3, .int (nI 2)), (0, .ref qM), (1, .int v1), (2, .int v2)]) hx hb dX4_init_115 hl (k := 0) rfl (nI_add 1 1) (by decide) rfl (fun ls hl => ?_)
          refine lv_goto (tgt := 95) hx hb dX4_init_118 (by decide) ?_
          refine lv_iload_n hx hb dX4_init_95 rfl (lv_at hl 0 rfl) ?_
          refine lv_iconst (v := 3) hx hb dX4_init_96 (by decide) ?_
          refine lv_icmp_ge (tgt := 121) hx hb dX4_init_97 (by decide) (fun c97_35 => ?_) (fun c97_35 => ?_)
          · exact absurd c97_35 (by decide)
          · refine lv_aload_n hx hb dX4_init_100 rfl (lv_at hl 1 rfl) ?_
            refine va_get (D := (dC, dI)) (ci := 4) (v := .ref zP) (C := RX4) (T := TX4) (N := 11) hx hb hts td_fX4 hown hK hP 0 rfl rfl 4 (by decide) (hts (.fieldLink RX4 7 "TileDeskModel" "pieces" "[I") (td_i12 (List.mem_of_getElem? (i := 3) rfl))) (fun _ h9 => h9) rfl dX4_init_101 ?_
            refine lv_sipush (v := 7168) hx hb dX4_init_104 (by decide) ?_
            refine lv_iconst (v := 4) hx hb dX4_init_107 (by decide) ?_
            refine lv_iload_n hx hb dX4_init_108 rfl (lv_at hl 0 rfl) ?_
            refine lv_imul hx hb dX4_init_109 ?_
            refine td_ti (nI (8)) (pk_mul 4 2) ?_
            refine lv_iadd hx hb dX4_init_110 ?_
            refine td_ti (nI (7176)) (nI_add 7168 8) ?_
            refine lv_iconst (v := 2) hx hb dX4_init_111 (by decide) ?_
            refine lv_iadd hx hb dX4_init_112 ?_
            refine td_ti (nI (7178)) (nI_add 7176 2) ?_
            refine lv_iconst (v := 1) hx hb dX4_init_113 (by decide) ?_
            refine td_iast hx hb hK hP hD hS 1 0 7178 rfl rfl rfl (by decide) (by decide) dX4_init_114 (fun H locs hP hD hS => ?_)
            have hP : va_P (dC, dI) vwCl [(qM, .inr (4, [.int 0, .int (nI w), .int (nI h), .int 0, .ref zP, .int 0, .int 0, .int 0, .ref zC, .ref zN, .ref zD])), (zP, .inl (cI, 7180, .inl (upd (upd (upd (fun _ => 0) 7170 1) 7174 1) 7178 1))), (zC, .inl (cI, 2304, .inl (fun _ => 0))), (zN, .inl (cI, 2304, .inl (fun _ => 0))), (zD, .inl (cZ, 36, .inl (fun _ => 0)))] H := hP
            have hD : va_D A [(qM, .inr (4, [.int 0, .int (nI w), .int (nI h), .int 0, .ref zP, .int 0, .int 0, .int 0, .ref zC, .ref zN, .ref zD])), (zP, .inl (cI, 7180, .inl (upd (upd (upd (fun _ => 0) 7170 1) 7174 1) 7178 1))), (zC, .inl (cI, 2304, .inl (fun _ => 0))), (zN, .inl (cI, 2304, .inl (fun _ => 0))), (zD, .inl (cZ, 36, .inl (fun _ => 0)))] := hD
            refine lv_iinc (v := nI 3) (lv' := [(3, .int (nI 3)), (0, .ref qM), (1, .int v1), (2, .int v2)]) hx hb dX4_init_115 hl (k := 0) rfl (nI_add 2 1) (by decide) rfl (fun ls hl => ?_)
            refine lv_goto (tgt := 95) hx hb dX4_init_118 (by decide) ?_
            refine lv_iload_n hx hb dX4_init_95 rfl (lv_at hl 0 rfl) ?_
            refine lv_iconst (v := 3) hx hb dX4_init_96 (by decide) ?_
            refine lv_icmp_ge (tgt := 121) hx hb dX4_init_97 (by decide) (fun c97_36 => ?_) (fun c97_36 => ?_)
            · have hP9 := hP.sub (ws' := [(qM, .inr (4, [.int 0, .int (nI w), .int (nI h), .int 0, .ref zP, .int 0, .int 0, .int 0, .ref zC, .ref zN, .ref zD])), (zP, .inl (cI, 7180, .inl (upd (upd (upd (fun _ => 0) 7170 1) 7174 1) 7178 1))), (zC, .inl (cI, 2304, .inl (fun _ => 0))), (zN, .inl (cI, 2304, .inl (fun _ => 0))), (zD, .inl (cZ, 36, .inl (fun _ => 0)))]) [0, 1, 2, 3, 4] rfl
              have hD9 := hD.sub (ws' := [(qM, .inr (4, [.int 0, .int (nI w), .int (nI h), .int 0, .ref zP, .int 0, .int 0, .int 0, .ref zC, .ref zN, .ref zD])), (zP, .inl (cI, 7180, .inl (upd (upd (upd (fun _ => 0) 7170 1) 7174 1) 7178 1))), (zC, .inl (cI, 2304, .inl (fun _ => 0))), (zN, .inl (cI, 2304, .inl (fun _ => 0))), (zD, .inl (cZ, 36, .inl (fun _ => 0)))]) [0, 1, 2, 3, 4] (by decide) rfl
              exact td_rwv (zP, zC, zN, zD) hx hb hr hlocks hK (trivial) hP9 hD9 hS dX4_init_121
            · exact absurd c97_36 (by decide)
