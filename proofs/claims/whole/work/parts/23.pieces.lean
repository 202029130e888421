set_option maxHeartbeats 4000000 in
set_option maxRecDepth 100000 in
/-- Pieces() -/
theorem td_Pieces_init (l : Launch) (dC : Nat → ClassId) (dI : Nat → Nat → Nat) (cI cJ cZ : ClassId) (sz : Nat) (qP : Nat) : Met l yX1_init wsX1_init ({ frames := 1, cells := 3, slots := 2560, locals := 12 }) (td_WP (dC, dI) vwCl (td_T cI cJ cZ) td_nl [(qP, .inr (1, [.null, .null, .null, .int 0]))] sz [.ref qP]) (va_Qv (S := Nat × Nat × Nat) (fun u => True) (td_B (dC, dI) vwCl (td_T cI cJ cZ) (va_A [(qP, .inr (1, [.null, .null, .null, .int 0]))] sz) (fun (u : Nat × Nat × Nat) => [(qP, .inr (1, [.ref u.1, .ref u.2.1, .ref u.2.2, .int 0])), (u.1, .inl (cJ, 1536, .inr (.inl (fun _ => 0)))), (u.2.1, .inl (cI, 512, .inl (fun _ => 0))), (u.2.2, .inl (cI, 512, .inl (fun _ => 0)))])) (va_A [(qP, .inr (1, [.null, .null, .null, .int 0]))] sz)) 3 2560 (va_A [(qP, .inr (1, [.null, .null, .null, .int 0]))] sz) := by
  refine Met.ofW (cc := cX1_init) (maxL := 1) (ret := none) (by decide) rfl ?_
  intro p e s m args below meth c s₁ B hml hv
  obtain ⟨rfl, hsz, hP, hK, hZ, hD0⟩ := hv
  have hx := B.exec
  have hb := B.bytes
  have hr := B.returns
  have hts := atoms_spec (ws := wsX1_init) B.pre
  have hown : s.vm.findClass RX1 = some m.cls := findClass_of_methodNamed B.named
  have hlocks := B.notSynchronized
  have hin : meth.name = "<init>" := (name_of_methodNamed B.named B.method).1
  subst hsz
  have hD := hD0.self (sz := s.heap.size)
  generalize hAe : va_A [(qP, .inr (1, [.null, .null, .null, .int 0]))] s.heap.size = A at hD ⊢
  have hA : ∀ q : Nat, s.heap.size ≤ q → A q := fun q h => by rw [← hAe]; exact Or.inr h
  have hS : va_S A s.heap s.heap [] := va_S.rf
  have hP : va_P (dC, dI) vwCl [(qP, .inr (1, [.null, .null, .null, .int 0]))] s.heap := hP
  have hl := lv_entry ([.ref qP]) (n := 1) (Nat.le_of_ble_eq_true rfl)
  rw [lg_entry_eq]
  generalize (lg_sl ([.ref qP]) ++ List.replicate (1 - (lg_sl ([.ref qP])).length) Slot.unset).toArray = ls at hl ⊢
  have hl : lv_has ls 1 [(0, .ref qP)] := hl
  refine lv_aload_n hx hb dX1_init_0 rfl (lv_at hl 0 rfl) ?_
  refine W.objInit hx hb hown (hts (.methodLink RX1 3 objectInit) (td_i2 (List.mem_of_getElem? (i := 6) rfl))) (hts (.instanceMethod objectInit) (td_i1 (List.mem_of_getElem? (i := 14) rfl))) (hts _ (td_i1 (List.mem_of_getElem? (i := 15) rfl))) rfl (by rw [hml]; exact hl.1) rfl dX1_init_1 (Nat.le_of_ble_eq_true rfl) (Nat.le_of_ble_eq_true rfl) ?_
  refine W.eq (g2 := F0 m 4 ls []) rfl ?_
  refine lv_aload_n hx hb dX1_init_4 rfl (lv_at hl 0 rfl) ?_
  refine lv_sipush (v := 1536) hx hb dX1_init_5 (by decide) ?_
  refine td_newa (a0 := (1536, .inr (.inl (fun _ => 0)))) (atype := .long) 1 hx hb (hts (.arrayClass .long) (td_i0 (List.mem_of_getElem? (i := 0) rfl))) rfl hK hP hD hS hA rfl (td_raJ s) (fun _ => rfl) rfl (by decide) (by decide) (Nat.le_of_ble_eq_true rfl) (Nat.le_of_ble_eq_true rfl) dX1_init_8 (fun bC H hP hD hS => ?_)
  have hP : va_P (dC, dI) vwCl [(qP, .inr (1, [.null, .null, .null, .int 0])), (bC, .inl (cJ, 1536, .inr (.inl (fun _ => 0))))] H := hP
  have hD : va_D A [(qP, .inr (1, [.null, .null, .null, .int 0])), (bC, .inl (cJ, 1536, .inr (.inl (fun _ => 0))))] := hD
  refine W.widen (k := 1) (n := 1536) (by omega) (by omega) ?_
  refine va_putF (D := (dC, dI)) (ci := 1) (v := .ref bC) (ty := .array .long) (C := RX1) (T := TX1) (N := 4) hx hb hts td_fX1 tyX1 tyX1_ok nmX1 hown hK hP hD hS 0 rfl rfl 0 (by decide) (hts (.fieldLink RX1 9 "TileDesk$Pieces" "corners" "[J") (td_i2 (List.mem_of_getElem? (i := 7) rfl))) (fun _ h9 => h9) rfl hin rfl (by decide +kernel) rfl rfl (Nat.le_of_ble_eq_true rfl) dX1_init_10 (fun H locs hP hD hS => ?_)
  have hP : va_P (dC, dI) vwCl [(qP, .inr (1, [.ref bC, .null, .null, .int 0])), (bC, .inl (cJ, 1536, .inr (.inl (fun _ => 0))))] H := hP
  have hD : va_D A [(qP, .inr (1, [.ref bC, .null, .null, .int 0])), (bC, .inl (cJ, 1536, .inr (.inl (fun _ => 0))))] := hD
  refine lv_aload_n hx hb dX1_init_13 rfl (lv_at hl 0 rfl) ?_
  refine lv_sipush (v := 512) hx hb dX1_init_14 (by decide) ?_
  refine td_newa (a0 := (512, .inl (fun _ => 0))) (atype := .int) 0 hx hb (hts (.arrayClass .int) (td_i0 (List.mem_of_getElem? (i := 1) rfl))) rfl hK hP hD hS hA rfl (td_raI s) (fun _ => rfl) rfl (by decide) (by decide) (Nat.le_of_ble_eq_true rfl) (Nat.le_of_ble_eq_true rfl) dX1_init_17 (fun bT H hP hD hS => ?_)
  have hP : va_P (dC, dI) vwCl [(qP, .inr (1, [.ref bC, .null, .null, .int 0])), (bC, .inl (cJ, 1536, .inr (.inl (fun _ => 0)))), (bT, .inl (cI, 512, .inl (fun _ => 0)))] H := hP
  have hD : va_D A [(qP, .inr (1, [.ref bC, .null, .null, .int 0])), (bC, .inl (cJ, 1536, .inr (.inl (fun _ => 0)))), (bT, .inl (cI, 512, .inl (fun _ => 0)))] := hD
  refine W.widen (k := 2) (n := 2048) (by omega) (by omega) ?_
  refine va_putF (D := (dC, dI)) (ci := 1) (v := .ref bT) (ty := .array .int) (C := RX1) (T := TX1) (N := 4) hx hb hts td_fX1 tyX1 tyX1_ok nmX1 hown hK hP hD hS 0 rfl rfl 1 (by decide) (hts (.fieldLink RX1 15 "TileDesk$Pieces" "tints" "[I") (td_i2 (List.mem_of_getElem? (i := 8) rfl))) (fun _ h9 => h9) rfl hin rfl (by decide +kernel) rfl rfl (Nat.le_of_ble_eq_true rfl) dX1_init_19 (fun H locs hP hD hS => ?_)
  have hP : va_P (dC, dI) vwCl [(qP, .inr (1, [.ref bC, .ref bT, .null, .int 0])), (bC, .inl (cJ, 1536, .inr (.inl (fun _ => 0)))), (bT, .inl (cI, 512, .inl (fun _ => 0)))] H := hP
  have hD : va_D A [(qP, .inr (1, [.ref bC, .ref bT, .null, .int 0])), (bC, .inl (cJ, 1536, .inr (.inl (fun _ => 0)))), (bT, .inl (cI, 512, .inl (fun _ => 0)))] := hD
  refine lv_aload_n hx hb dX1_init_22 rfl (lv_at hl 0 rfl) ?_
  refine lv_sipush (v := 512) hx hb dX1_init_23 (by decide) ?_
  refine td_newa (a0 := (512, .inl (fun _ => 0))) (atype := .int) 0 hx hb (hts (.arrayClass .int) (td_i0 (List.mem_of_getElem? (i := 1) rfl))) rfl hK hP hD hS hA rfl (td_raI s) (fun _ => rfl) rfl (by decide) (by decide) (Nat.le_of_ble_eq_true rfl) (Nat.le_of_ble_eq_true rfl) dX1_init_26 (fun bV H hP hD hS => ?_)
  have hP : va_P (dC, dI) vwCl [(qP, .inr (1, [.ref bC, .ref bT, .null, .int 0])), (bC, .inl (cJ, 1536, .inr (.inl (fun _ => 0)))), (bT, .inl (cI, 512, .inl (fun _ => 0))), (bV, .inl (cI, 512, .inl (fun _ => 0)))] H := hP
  have hD : va_D A [(qP, .inr (1, [.ref bC, .ref bT, .null, .int 0])), (bC, .inl (cJ, 1536, .inr (.inl (fun _ => 0)))), (bT, .inl (cI, 512, .inl (fun _ => 0))), (bV, .inl (cI, 512, .inl (fun _ => 0)))] := hD
  refine W.widen (k := 3) (n := 2560) (by omega) (by omega) ?_
  refine va_putF (D := (dC, dI)) (ci := 1) (v := .ref bV) (ty := .array .int) (C := RX1) (T := TX1) (N := 4) hx hb hts td_fX1 tyX1 tyX1_ok nmX1 hown hK hP hD hS 0 rfl rfl 2 (by decide) (hts (.fieldLink RX1 19 "TileDesk$Pieces" "covers" "[I") (td_i2 (List.mem_of_getElem? (i := 9) rfl))) (fun _ h9 => h9) rfl hin rfl (by decide +kernel) rfl rfl (Nat.le_of_ble_eq_true rfl) dX1_init_28 (fun H locs hP hD hS => ?_)
  have hP : va_P (dC, dI) vwCl [(qP, .inr (1, [.ref bC, .ref bT, .ref bV, .int 0])), (bC, .inl (cJ, 1536, .inr (.inl (fun _ => 0)))), (bT, .inl (cI, 512, .inl (fun _ => 0))), (bV, .inl (cI, 512, .inl (fun _ => 0)))] H := hP
  have hD : va_D A [(qP, .inr (1, [.ref bC, .ref bT, .ref bV, .int 0])), (bC, .inl (cJ, 1536, .inr (.inl (fun _ => 0)))), (bT, .inl (cI, 512, .inl (fun _ => 0))), (bV, .inl (cI, 512, .inl (fun _ => 0)))] := hD
  refine lv_aload_n hx hb dX1_init_31 rfl (lv_at hl 0 rfl) ?_
  refine lv_iconst (v := 0) hx hb dX1_init_32 (by decide) ?_
  refine va_put (D := (dC, dI)) (ci := 1) (v := .int 0) (ty := .int) (C := RX1) (T := TX1) (N := 4) hx hb hts td_fX1 tyX1 tyX1_ok nmX1 hown hK hP hD hS 0 rfl rfl 3 (by decide) (hts (.fieldLink RX1 22 "TileDesk$Pieces" "size" "I") (td_i2 (List.mem_of_getElem? (i := 10) rfl))) (fun _ h9 => h9) rfl (by decide +kernel) rfl rfl (Nat.le_of_ble_eq_true rfl) dX1_init_33 (fun H locs hP hD hS => ?_)
  have hP : va_P (dC, dI) vwCl [(qP, .inr (1, [.ref bC, .ref bT, .ref bV, .int 0])), (bC, .inl (cJ, 1536, .inr (.inl (fun _ => 0)))), (bT, .inl (cI, 512, .inl (fun _ => 0))), (bV, .inl (cI, 512, .inl (fun _ => 0)))] H := hP
  have hD : va_D A [(qP, .inr (1, [.ref bC, .ref bT, .ref bV, .int 0])), (bC, .inl (cJ, 1536, .inr (.inl (fun _ => 0)))), (bT, .inl (cI, 512, .inl (fun _ => 0))), (bV, .inl (cI, 512, .inl (fun _ => 0)))] := hD
  have hP9 := hP.sub (ws' := [(qP, .inr (1, [.ref bC, .ref bT, .ref bV, .int 0])), (bC, .inl (cJ, 1536, .inr (.inl (fun _ => 0)))), (bT, .inl (cI, 512, .inl (fun _ => 0))), (bV, .inl (cI, 512, .inl (fun _ => 0)))]) [0, 1, 2, 3] rfl
  have hD9 := hD.sub (ws' := [(qP, .inr (1, [.ref bC, .ref bT, .ref bV, .int 0])), (bC, .inl (cJ, 1536, .inr (.inl (fun _ => 0)))), (bT, .inl (cI, 512, .inl (fun _ => 0))), (bV, .inl (cI, 512, .inl (fun _ => 0)))]) [0, 1, 2, 3] (by decide) rfl
  exact td_rwv (bC, bT, bV) hx hb hr hlocks hK (trivial) hP9 hD9 hS dX1_init_36
set_option maxHeartbeats 4000000 in
set_option maxRecDepth 100000 in
/-- Pieces.removeAll -/
theorem td_removeAll (l : Launch) (dC : Nat → ClassId) (dI : Nat → Nat → Nat) (cI cJ cZ : ClassId) (sz : Nat) (qP : Nat) (pC : Nat) (pT : Nat) (pV : Nat) (fC : Nat → Int64) (fT : Nat → Int32) (fV : Nat → Int32) (n : Nat) : Met l yX1_removeAll wsX1_removeAll ({ frames := 0, cells := 0, slots := 0, locals := 0 }) (td_WP (dC, dI) vwCl (td_T cI cJ cZ) td_nl [(qP, .inr (1, [.ref pC, .ref pT, .ref pV, .int (nI n)])), (pC, .inl (cJ, 1536, .inr (.inl fC))), (pT, .inl (cI, 512, .inl fT)), (pV, .inl (cI, 512, .inl fV))] sz [.ref qP]) (va_Qv (S := Unit) (fun u => True) (td_B (dC, dI) vwCl (td_T cI cJ cZ) (va_A [(qP, .inr (1, [.ref pC, .ref pT, .ref pV, .int (nI n)])), (pC, .inl (cJ, 1536, .inr (.inl fC))), (pT, .inl (cI, 512, .inl fT)), (pV, .inl (cI, 512, .inl fV))] sz) (fun (u : Unit) => [(qP, .inr (1, [.ref pC, .ref pT, .ref pV, .int 0])), (pC, .inl (cJ, 1536, .inr (.inl fC))), (pT, .inl (cI, 512, .inl fT)), (pV, .inl (cI, 512, .inl fV))])) (va_A [(qP, .inr (1, [.ref pC, .ref pT, .ref pV, .int (nI n)])), (pC, .inl (cJ, 1536, .inr (.inl fC))), (pT, .inl (cI, 512, .inl fT)), (pV, .inl (cI, 512, .inl fV))] sz)) 0 0 (va_A [(qP, .inr (1, [.ref pC, .ref pT, .ref pV, .int (nI n)])), (pC, .inl (cJ, 1536, .inr (.inl fC))), (pT, .inl (cI, 512, .inl fT)), (pV, .inl (cI, 512, .inl fV))] sz) := by
  refine Met.ofW (cc := cX1_removeAll) (maxL := 1) (ret := none) (by decide) rfl ?_
  intro p e s m args below meth c s₁ B hml hv
  obtain ⟨rfl, hsz, hP, hK, hZ, hD0⟩ := hv
  have hx := B.exec
  have hb := B.bytes
  have hr := B.returns
  have hts := atoms_spec (ws := wsX1_removeAll) B.pre
  have hown : s.vm.findClass RX1 = some m.cls := findClass_of_methodNamed B.named
  have hlocks := B.notSynchronized
  subst hsz
  have hD := hD0.self (sz := s.heap.size)
  generalize hAe : va_A [(qP, .inr (1, [.ref pC, .ref pT, .ref pV, .int (nI n)])), (pC, .inl (cJ, 1536, .inr (.inl fC))), (pT, .inl (cI, 512, .inl fT)), (pV, .inl (cI, 512, .inl fV))] s.heap.size = A at hD ⊢
  have hA : ∀ q : Nat, s.heap.size ≤ q → A q := fun q h => by rw [← hAe]; exact Or.inr h
  have hS : va_S A s.heap s.heap [] := va_S.rf
  have hP : va_P (dC, dI) vwCl [(qP, .inr (1, [.ref pC, .ref pT, .ref pV, .int (nI n)])), (pC, .inl (cJ, 1536, .inr (.inl fC))), (pT, .inl (cI, 512, .inl fT)), (pV, .inl (cI, 512, .inl fV))] s.heap := hP
  have hl := lv_entry ([.ref qP]) (n := 1) (Nat.le_of_ble_eq_true rfl)
  rw [lg_entry_eq]
  generalize (lg_sl ([.ref qP]) ++ List.replicate (1 - (lg_sl ([.ref qP])).length) Slot.unset).toArray = ls at hl ⊢
  have hl : lv_has ls 1 [(0, .ref qP)] := hl
  refine lv_aload_n hx hb dX1_removeAll_0 rfl (lv_at hl 0 rfl) ?_
  refine lv_iconst (v := 0) hx hb dX1_removeAll_1 (by decide) ?_
  refine va_put (D := (dC, dI)) (ci := 1) (v := .int 0) (ty := .int) (C := RX1) (T := TX1) (N := 4) hx hb hts td_fX1 tyX1 tyX1_ok nmX1 hown hK hP hD hS 0 rfl rfl 3 (by decide) (hts (.fieldLink RX1 22 "TileDesk$Pieces" "size" "I") (td_i2 (List.mem_of_getElem? (i := 10) rfl))) (fun _ h9 => h9) rfl (by decide +kernel) rfl rfl (Nat.le_of_ble_eq_true rfl) dX1_removeAll_2 (fun H locs hP hD hS => ?_)
  have hP : va_P (dC, dI) vwCl [(qP, .inr (1, [.ref pC, .ref pT, .ref pV, .int 0])), (pC, .inl (cJ, 1536, .inr (.inl fC))), (pT, .inl (cI, 512, .inl fT)), (pV, .inl (cI, 512, .inl fV))] H := hP
  have hD : va_D A [(qP, .inr (1, [.ref pC, .ref pT, .ref pV, .int 0])), (pC, .inl (cJ, 1536, .inr (.inl fC))), (pT, .inl (cI, 512, .inl fT)), (pV, .inl (cI, 512, .inl fV))] := hD
  have hP9 := hP.sub (ws' := [(qP, .inr (1, [.ref pC, .ref pT, .ref pV, .int 0])), (pC, .inl (cJ, 1536, .inr (.inl fC))), (pT, .inl (cI, 512, .inl fT)), (pV, .inl (cI, 512, .inl fV))]) [0, 1, 2, 3] rfl
  have hD9 := hD.sub (ws' := [(qP, .inr (1, [.ref pC, .ref pT, .ref pV, .int 0])), (pC, .inl (cJ, 1536, .inr (.inl fC))), (pT, .inl (cI, 512, .inl fT)), (pV, .inl (cI, 512, .inl fV))]) [0, 1, 2, 3] (by decide) rfl
  exact td_rwv () hx hb hr hlocks hK (trivial) hP9 hD9 hS dX1_removeAll_5
set_option maxHeartbeats 4000000 in
set_option maxRecDepth 100000 in
/-- Pieces.append -/
theorem td_append (l : Launch) (dC : Nat → ClassId) (dI : Nat → Nat → Nat) (cI cJ cZ : ClassId) (sz : Nat) (qP : Nat) (pC : Nat) (pT : Nat) (pV : Nat) (fC : Nat → Int64) (fT : Nat → Int32) (fV : Nat → Int32) (n : Nat) (qS : Nat) (aX : Nat) (aY : Nat) (aR : Nat) (aL : Nat) (aW : Nat) (vX : Nat → Int64) (vY : Nat → Int64) (vR : Nat → Int64) (vL : Nat → Int64) (vW : Nat → Int64) (tn : Int32) (cv : Int32) (hn : n ≤ 512) : Met l yX1_append wsX1_append ({ frames := 1, cells := 0, slots := 0, locals := 23 }) (td_WP (dC, dI) vwCl (td_T cI cJ cZ) td_nl [(qP, .inr (1, [.ref pC, .ref pT, .ref pV, .int (nI n)])), (pC, .inl (cJ, 1536, .inr (.inl fC))), (pT, .inl (cI, 512, .inl fT)), (pV, .inl (cI, 512, .inl fV)), (qS, .inr (0, [.ref aX, .ref aY, .ref aR, .ref aL, .ref aW])), (aX, .inl (cJ, 3, .inr (.inl vX))), (aY, .inl (cJ, 3, .inr (.inl vY))), (aR, .inl (cJ, 3, .inr (.inl vR))), (aL, .inl (cJ, 3, .inr (.inl vL))), (aW, .inl (cJ, 3, .inr (.inl vW)))] sz [.ref qP, .ref qS, .int tn, .int cv]) (va_Qi (S := (Nat → Int64) × (Nat → Int32) × (Nat → Int32) × Nat) (fun r u => (n = 512 ∧ r = -1 ∧ u.1 = fC ∧ u.2.1 = fT ∧ u.2.2.1 = fV ∧ u.2.2.2 = n) ∨ (n < 512 ∧ r = nI n ∧ u.1 = vp_updL (vp_updL (vp_updL fC (3 * n + 0) (td_pk (vX 0) (vY 0) (vR 0) (vL 0))) (3 * n + 1) (td_pk (vX 1) (vY 1) (vR 1) (vL 1))) (3 * n + 2) (td_pk (vX 2) (vY 2) (vR 2) (vL 2)) ∧ u.2.1 = upd fT n tn ∧ u.2.2.1 = upd fV n cv ∧ u.2.2.2 = n + 1)) (td_B (dC, dI) vwCl (td_T cI cJ cZ) (va_A [(qP, .inr (1, [.ref pC, .ref pT, .ref pV, .int (nI n)])), (pC, .inl (cJ, 1536, .inr (.inl fC))), (pT, .inl (cI, 512, .inl fT)), (pV, .inl (cI, 512, .inl fV)), (qS, .inr (0, [.ref aX, .ref aY, .ref aR, .ref aL, .ref aW])), (aX, .inl (cJ, 3, .inr (.inl vX))), (aY, .inl (cJ, 3, .inr (.inl vY))), (aR, .inl (cJ, 3, .inr (.inl vR))), (aL, .inl (cJ, 3, .inr (.inl vL))), (aW, .inl (cJ, 3, .inr (.inl vW)))] sz) (fun (u : (Nat → Int64) × (Nat → Int32) × (Nat → Int32) × Nat) => [(qP, .inr (1, [.ref pC, .ref pT, .ref pV, .int (nI u.2.2.2)])), (pC, .inl (cJ, 1536, .inr (.inl u.1))), (pT, .inl (cI, 512, .inl u.2.1)), (pV, .inl (cI, 512, .inl u.2.2.1)), (qS, .inr (0, [.ref aX, .ref aY, .ref aR, .ref aL, .ref aW])), (aX, .inl (cJ, 3, .inr (.inl vX))), (aY, .inl (cJ, 3, .inr (.inl vY))), (aR, .inl (cJ, 3, .inr (.inl vR))), (aL, .inl (cJ, 3, .inr (.inl vL))), (aW, .inl (cJ, 3, .inr (.inl vW)))])) (va_A [(qP, .inr (1, [.ref pC, .ref pT, .ref pV, .int (nI n)])), (pC, .inl (cJ, 1536, .inr (.inl fC))), (pT, .inl (cI, 512, .inl fT)), (pV, .inl (cI, 512, .inl fV)), (qS, .inr (0, [.ref aX, .ref aY, .ref aR, .ref aL, .ref aW])), (aX, .inl (cJ, 3, .inr (.inl vX))), (aY, .inl (cJ, 3, .inr (.inl vY))), (aR, .inl (cJ, 3, .inr (.inl vR))), (aL, .inl (cJ, 3, .inr (.inl vL))), (aW, .inl (cJ, 3, .inr (.inl vW)))] sz)) 0 0 (va_A [(qP, .inr (1, [.ref pC, .ref pT, .ref pV, .int (nI n)])), (pC, .inl (cJ, 1536, .inr (.inl fC))), (pT, .inl (cI, 512, .inl fT)), (pV, .inl (cI, 512, .inl fV)), (qS, .inr (0, [.ref aX, .ref aY, .ref aR, .ref aL, .ref aW])), (aX, .inl (cJ, 3, .inr (.inl vX))), (aY, .inl (cJ, 3, .inr (.inl vY))), (aR, .inl (cJ, 3, .inr (.inl vR))), (aL, .inl (cJ, 3, .inr (.inl vL))), (aW, .inl (cJ, 3, .inr (.inl vW)))] sz) := by
  refine Met.ofW (cc := cX1_append) (maxL := 5) (ret := (some .int)) (by decide) rfl ?_
  intro p e s m args below meth c s₁ B hml hv
  obtain ⟨rfl, hsz, hP, hK, hZ, hD0⟩ := hv
  have hx := B.exec
  have hb := B.bytes
  have hr := B.returns
  have hts := atoms_spec (ws := wsX1_append) B.pre
  have hown : s.vm.findClass RX1 = some m.cls := findClass_of_methodNamed B.named
  have hlocks := B.notSynchronized
  subst hsz
  have hD := hD0.self (sz := s.heap.size)
  generalize hAe : va_A [(qP, .inr (1, [.ref pC, .ref pT, .ref pV, .int (nI n)])), (pC, .inl (cJ, 1536, .inr (.inl fC))), (pT, .inl (cI, 512, .inl fT)), (pV, .inl (cI, 512, .inl fV)), (qS, .inr (0, [.ref aX, .ref aY, .ref aR, .ref aL, .ref aW])), (aX, .inl (cJ, 3, .inr (.inl vX))), (aY, .inl (cJ, 3, .inr (.inl vY))), (aR, .inl (cJ, 3, .inr (.inl vR))), (aL, .inl (cJ, 3, .inr (.inl vL))), (aW, .inl (cJ, 3, .inr (.inl vW)))] s.heap.size = A at hD ⊢
  have hA : ∀ q : Nat, s.heap.size ≤ q → A q := fun q h => by rw [← hAe]; exact Or.inr h
  have hS : va_S A s.heap s.heap [] := va_S.rf
  have hP : va_P (dC, dI) vwCl [(qP, .inr (1, [.ref pC, .ref pT, .ref pV, .int (nI n)])), (pC, .inl (cJ, 1536, .inr (.inl fC))), (pT, .inl (cI, 512, .inl fT)), (pV, .inl (cI, 512, .inl fV)), (qS, .inr (0, [.ref aX, .ref aY, .ref aR, .ref aL, .ref aW])), (aX, .inl (cJ, 3, .inr (.inl vX))), (aY, .inl (cJ, 3, .inr (.inl vY))), (aR, .inl (cJ, 3, .inr (.inl vR))), (aL, .inl (cJ, 3, .inr (.inl vL))), (aW, .inl (cJ, 3, .inr (.inl vW)))] s.heap := hP
  have hl := lv_entry ([.ref qP, .ref qS, .int tn, .int cv]) (n := 5) (Nat.le_of_ble_eq_true rfl)
  rw [lg_entry_eq]
  generalize (lg_sl ([.ref qP, .ref qS, .int tn, .int cv]) ++ List.replicate (5 - (lg_sl ([.ref qP, .ref qS, .int tn, .int cv])).length) Slot.unset).toArray = ls at hl ⊢
  have hl : lv_has ls 5 [(0, .ref qP), (1, .ref qS), (2, .int tn), (3, .int cv)] := hl
  refine lv_aload_n hx hb dX1_append_0 rfl (lv_at hl 0 rfl) ?_
  refine va_get (D := (dC, dI)) (ci := 1) (v := .int (nI n)) (C := RX1) (T := TX1) (N := 4) hx hb hts td_fX1 hown hK hP 0 rfl rfl 3 (by decide) (hts (.fieldLink RX1 22 "TileDesk$Pieces" "size" "I") (td_i2 (List.mem_of_getElem? (i := 10) rfl))) (fun _ h9 => h9) rfl dX1_append_1 ?_
  refine lv_sipush (v := 512) hx hb dX1_append_4 (by decide) ?_
  refine lv_icmp_lt (tgt := 12) hx hb dX1_append_7 (by decide) (fun c7 => ?_) (fun c7 => ?_)
  · have hn2 : n < 512 := (nI_ltI (a := n) (b := 512) (by omega) (by omega)).mp c7
    refine lv_iconst (v := 0) hx hb dX1_append_12 (by decide) ?_
    refine lv_istore (lv' := [(4, .int 0), (0, .ref qP), (1, .ref qS), (2, .int tn), (3, .int cv)]) hx hb dX1_append_13 hl (by decide) rfl (fun ls hl => ?_)
    refine lv_iload hx hb dX1_append_15 (lv_at hl 0 rfl) ?_
    refine lv_iconst (v := 3) hx hb dX1_append_17 (by decide) ?_
    refine lv_icmp_ge (tgt := 47) hx hb dX1_append_18 (by decide) (fun c18_1 => ?_) (fun c18_1 => ?_)
    · exact absurd c18_1 (by decide)
    · refine lv_aload_n hx hb dX1_append_21 rfl (lv_at hl 1 rfl) ?_
      refine va_get (D := (dC, dI)) (ci := 1) (v := .ref pC) (C := RX1) (T := TX1) (N := 4) hx hb hts td_fX1 hown hK hP 0 rfl rfl 0 (by decide) (hts (.fieldLink RX1 9 "TileDesk$Pieces" "corners" "[J") (td_i2 (List.mem_of_getElem? (i := 7) rfl))) (fun _ h9 => h9) rfl dX1_append_22 ?_
      refine lv_iconst (v := 3) hx hb dX1_append_25 (by decide) ?_
      refine lv_aload_n hx hb dX1_append_26 rfl (lv_at hl 1 rfl) ?_
      refine va_get (D := (dC, dI)) (ci := 1) (v := .int (nI n)) (C := RX1) (T := TX1) (N := 4) hx hb hts td_fX1 hown hK hP 0 rfl rfl 3 (by decide) (hts (.fieldLink RX1 22 "TileDesk$Pieces" "size" "I") (td_i2 (List.mem_of_getElem? (i := 10) rfl))) (fun _ h9 => h9) rfl dX1_append_27 ?_
      refine lv_imul hx hb dX1_append_30 ?_
      refine td_ti (nI (3 * n)) (pk_mul 3 n) ?_
      refine lv_iload hx hb dX1_append_31 (lv_at hl 0 rfl) ?_
      refine lv_iadd hx hb dX1_append_33 ?_
      refine td_ti (nI (3 * n + 0)) (nI_add (3 * n) 0) ?_
      refine lv_aload_n hx hb dX1_append_34 rfl (lv_at hl 2 rfl) ?_
      refine lv_iload hx hb dX1_append_35 (lv_at hl 0 rfl) ?_
      refine td_csl (va_runV (As := [.int 0]) (rest := [.int (nI (3 * n + 0)), .ref pC]) ⟨hx, hb, hml, hown, hts⟩ (td_packedCorner l dC dI cI cJ cZ qS aX aY aR aL aW vX vY vR vL vW 0 (by omega)) (cwV 1 hts (td_gV (td_i5 (List.mem_of_getElem? (i := 4) rfl)) (td_i5 (List.mem_of_getElem? (i := 5) rfl)) (td_i5 (List.mem_of_getElem? (i := 6) rfl)) (td_i1 (List.mem_of_getElem? (i := 2) rfl)) (td_i5 (List.mem_of_getElem? (i := 7) rfl))) rfl rfl rfl (by decide +kernel) ⟨(Nat.le_of_ble_eq_true rfl), (Nat.le_of_ble_eq_true rfl)⟩) (td_pRV hK hZ hP [4, 5, 6, 7, 8, 9] rfl (va_recv hK hP (ci := 0) (q0 := 4) rfl rfl)) rfl rfl hl.1 rfl (lv_room (Nat.le_of_ble_eq_true rfl)) dX1_append_37 ⟨Nat.zero_le _, Nat.zero_le _⟩) ?_
      refine td_last hx hb hK hP hD hS 1 1 (3 * n + 0) rfl rfl rfl (by omega) (by decide) dX1_append_40 (fun H locs hP hD hS => ?_)
      have hP : va_P (dC, dI) vwCl [(qP, .inr (1, [.ref pC, .ref pT, .ref pV, .int (nI n)])), (pC, .inl (cJ, 1536, .inr (.inl (vp_updL fC (3 * n + 0) (td_pk (vX 0) (vY 0) (vR 0) (vL 0)))))), (pT, .inl (cI, 512, .inl fT)), (pV, .inl (cI, 512, .inl fV)), (qS, .inr (0, [.ref aX, .ref aY, .ref aR, .ref aL, .ref aW])), (aX, .inl (cJ, 3, .inr (.inl vX))), (aY, .inl (cJ, 3, .inr (.inl vY))), (aR, .inl (cJ, 3, .inr (.inl vR))), (aL, .inl (cJ, 3, .inr (.inl vL))), (aW, .inl (cJ, 3, .inr (.inl vW)))] H := hP
      have hD : va_D A [(qP, .inr (1, [.ref pC, .ref pT, .ref pV, .int (nI n)])), (pC, .inl (cJ, 1536, .inr (.inl (vp_updL fC (3 * n + 0) (td_pk (vX 0) (vY 0) (vR 0) (vL 0)))))), (pT, .inl (cI, 512, .inl fT)), (pV, .inl (cI, 512, .inl fV)), (qS, .inr (0, [.ref aX, .ref aY, .ref aR, .ref aL, .ref aW])), (aX, .inl (cJ, 3, .inr (.inl vX))), (aY, .inl (cJ, 3, .inr (.inl vY))), (aR, .inl (cJ, 3, .inr (.inl vR))), (aL, .inl (cJ, 3, .inr (.inl vL))), (aW, .inl (cJ, 3, .inr (.inl vW)))] := hD
      refine lv_iinc (v := nI 1) (lv' := [(4, .int (nI 1)), (0, .ref qP), (1, .ref qS), (2, .int tn), (3, .int cv)]) hx hb dX1_append_41 hl (k := 0) rfl (nI_add 0 1) (by decide) rfl (fun ls hl => ?_)
      refine lv_goto (tgt := 15) hx hb dX1_append_44 (by decide) ?_
      refine lv_iload hx hb dX1_append_15 (lv_at hl 0 rfl) ?_
      refine lv_iconst (v := 3) hx hb dX1_append_17 (by decide) ?_
      refine lv_icmp_ge (tgt := 47) hx hb dX1_append_18 (by decide) (fun c18_2 => ?_) (fun c18_2 => ?_)
      · exact absurd c18_2 (by decide)
      · refine lv_aload_n hx hb dX1_append_21 rfl (lv_at hl 1 rfl) ?_
        refine va_get (D := (dC, dI)) (ci := 1) (v := .ref pC) (C := RX1) (T := TX1) (N := 4) hx hb hts td_fX1 hown hK hP 0 rfl rfl 0 (by decide) (hts (.fieldLink RX1 9 "TileDesk$Pieces" "corners" "[J") (td_i2 (List.mem_of_getElem? (i := 7) rfl))) (fun _ h9 => h9) rfl dX1_append_22 ?_
        refine lv_iconst (v := 3) hx hb dX1_append_25 (by decide) ?_
        refine lv_aload_n hx hb dX1_append_26 rfl (lv_at hl 1 rfl) ?_
        refine va_get (D := (dC, dI)) (ci := 1) (v := .int (nI n)) (C := RX1) (T := TX1) (N := 4) hx hb hts td_fX1 hown hK hP 0 rfl rfl 3 (by decide) (hts (.fieldLink RX1 22 "TileDesk$Pieces" "size" "I") (td_i2 (List.mem_of_getElem? (i := 10) rfl))) (fun _ h9 => h9) rfl dX1_append_27 ?_
        refine lv_imul hx hb dX1_append_30 ?_
        refine td_ti (nI (3 * n)) (pk_mul 3 n) ?_
        refine lv_iload hx hb dX1_append_31 (lv_at hl 0 rfl) ?_
        refine lv_iadd hx hb dX1_append_33 ?_
        refine td_ti (nI (3 * n + 1)) (nI_add (3 * n) 1) ?_
        refine lv_aload_n hx hb dX1_append_34 rfl (lv_at hl 2 rfl) ?_
        refine lv_iload hx hb dX1_append_35 (lv_at hl 0 rfl) ?_
        refine td_csl (va_runV (As := [.int (nI 1)]) (rest := [.int (nI (3 * n + 1)), .ref pC]) ⟨hx, hb, hml, hown, hts⟩ (td_packedCorner l dC dI cI cJ cZ qS aX aY aR aL aW vX vY vR vL vW 1 (by omega)) (cwV 1 hts (td_gV (td_i5 (List.mem_of_getElem? (i := 4) rfl)) (td_i5 (List.mem_of_getElem? (i := 5) rfl)) (td_i5 (List.mem_of_getElem? (i := 6) rfl)) (td_i1 (List.mem_of_getElem? (i := 2) rfl)) (td_i5 (List.mem_of_getElem? (i := 7) rfl))) rfl rfl rfl (by decide +kernel) ⟨(Nat.le_of_ble_eq_true rfl), (Nat.le_of_ble_eq_true rfl)⟩) (td_pRV hK hZ hP [4, 5, 6, 7, 8, 9] rfl (va_recv hK hP (ci := 0) (q0 := 4) rfl rfl)) rfl rfl hl.1 rfl (lv_room (Nat.le_of_ble_eq_true rfl)) dX1_append_37 ⟨Nat.zero_le _, Nat.zero_le _⟩) ?_
        refine td_last hx hb hK hP hD hS 1 1 (3 * n + 1) rfl rfl rfl (by omega) (by decide) dX1_append_40 (fun H locs hP hD hS => ?_)
        have hP : va_P (dC, dI) vwCl [(qP, .inr (1, [.ref pC, .ref pT, .ref pV, .int (nI n)])), (pC, .inl (cJ, 1536, .inr (.inl (vp_updL (vp_updL fC (3 * n + 0) (td_pk (vX 0) (vY 0) (vR 0) (vL 0))) (3 * n + 1) (td_pk (vX 1) (vY 1) (vR 1) (vL 1)))))), (pT, .inl (cI, 512, .inl fT)), (pV, .inl (cI, 512, .inl fV)), (qS, .inr (0, [.ref aX, .ref aY, .ref aR, .ref aL, .ref aW])), (aX, .inl (cJ, 3, .inr (.inl vX))), (aY, .inl (cJ, 3, .inr (.inl vY))), (aR, .inl (cJ, 3, .inr (.inl vR))), (aL, .inl (cJ, 3, .inr (.inl vL))), (aW, .inl (cJ, 3, .inr (.inl vW)))] H := hP
        have hD : va_D A [(qP, .inr (1, [.ref pC, .ref pT, .ref pV, .int (nI n)])), (pC, .inl (cJ, 1536, .inr (.inl (vp_updL (vp_updL fC (3 * n + 0) (td_pk (vX 0) (vY 0) (vR 0) (vL 0))) (3 * n + 1) (td_pk (vX 1) (vY 1) (vR 1) (vL 1)))))), (pT, .inl (cI, 512, .inl fT)), (pV, .inl (cI, 512, .inl fV)), (qS, .inr (0, [.ref aX, .ref aY, .ref aR, .ref aL, .ref aW])), (aX, .inl (cJ, 3, .inr (.inl vX))), (aY, .inl (cJ, 3, .inr (.inl vY))), (aR, .inl (cJ, 3, .inr (.inl vR))), (aL, .inl (cJ, 3, .inr (.inl vL))), (aW, .inl (cJ, 3, .inr (.inl vW)))] := hD
        refine lv_iinc (v := nI 2) (lv' := [(4, .int (nI 2)), (0, .ref qP), (1, .ref qS), (2, .int tn), (3, .int cv)]) hx hb dX1_append_41 hl (k := 0) rfl (nI_add 1 1) (by decide) rfl (fun ls hl => ?_)
        refine lv_goto (tgt := 15) hx hb dX1_append_44 (by decide) ?_
        refine lv_iload hx hb dX1_append_15 (lv_at hl 0 rfl) ?_
        refine lv_iconst (v := 3) hx hb dX1_append_17 (by decide) ?_
        refine lv_icmp_ge (tgt := 47) hx hb dX1_append_18 (by decide) (fun c18_3 => ?_) (fun c18_3 => ?_)
        · exact absurd c18_3 (by decide)
        · refine lv_aload_n hx hb dX1_append_21 rfl (lv_at hl 1 rfl) ?_
          refine va_get (D := (dC, dI)) (ci := 1) (v := .ref pC) (C := RX1) (T := TX1) (N := 4) hx hb hts td_fX1 hown hK hP 0 rfl rfl 0 (by decide) (hts (.fieldLink RX1 9 "TileDesk$Pieces" "corners" "[J") (td_i2 (List.mem_of_getElem? (i := 7) rfl))) (fun _ h9 => h9) rfl dX1_append_22 ?_
          refine lv_iconst (v := 3) hx hb dX1_append_25 (by decide) ?_
          refine lv_aload_n hx hb dX1_append_26 rfl (lv_at hl 1 rfl) ?_
          refine va_get (D := (dC, dI)) (ci := 1) (v := .int (nI n)) (C := RX1) (T := TX1) (N := 4) hx hb hts td_fX1 hown hK hP 0 rfl rfl 3 (by decide) (hts (.fieldLink RX1 22 "TileDesk$Pieces" "size" "I") (td_i2 (List.mem_of_getElem? (i := 10) rfl))) (fun _ h9 => h9) rfl dX1_append_27 ?_
          refine lv_imul hx hb dX1_append_30 ?_
          refine td_ti (nI (3 * n)) (pk_mul 3 n) ?_
          refine lv_iload hx hb dX1_append_31 (lv_at hl 0 rfl) ?_
          refine lv_iadd hx hb dX1_append_33 ?_
          refine td_ti (nI (3 * n + 2)) (nI_add (3 * n) 2) ?_
          refine lv_aload_n hx hb dX1_append_34 rfl (lv_at hl 2 rfl) ?_
          refine lv_iload hx hb dX1_append_35 (lv_at hl 0 rfl) ?_
          refine td_csl (va_runV (As := [.int (nI 2)]) (rest := [.int (nI (3 * n + 2)), .ref pC]) ⟨hx, hb, hml, hown, hts⟩ (td_packedCorner l dC dI cI cJ cZ qS aX aY aR aL aW vX vY vR vL vW 2 (by omega)) (cwV 1 hts (td_gV (td_i5 (List.mem_of_getElem? (i := 4) rfl)) (td_i5 (List.mem_of_getElem? (i := 5) rfl)) (td_i5 (List.mem_of_getElem? (i := 6) rfl)) (td_i1 (List.mem_of_getElem? (i := 2) rfl)) (td_i5 (List.mem_of_getElem? (i := 7) rfl))) rfl rfl rfl (by decide +kernel) ⟨(Nat.le_of_ble_eq_true rfl), (Nat.le_of_ble_eq_true rfl)⟩) (td_pRV hK hZ hP [4, 5, 6, 7, 8, 9] rfl (va_recv hK hP (ci := 0) (q0 := 4) rfl rfl)) rfl rfl hl.1 rfl (lv_room (Nat.le_of_ble_eq_true rfl)) dX1_append_37 ⟨Nat.zero_le _, Nat.zero_le _⟩) ?_
          refine td_last hx hb hK hP hD hS 1 1 (3 * n + 2) rfl rfl rfl (by omega) (by decide) dX1_append_40 (fun H locs hP hD hS => ?_)
          have hP : va_P (dC, dI) vwCl [(qP, .inr (1, [.ref pC, .ref pT, .ref pV, .int (nI n)])), (pC, .inl (cJ, 1536, .inr (.inl (vp_updL (vp_updL (vp_updL fC (3 * n + 0) (td_pk (vX 0) (vY 0) (vR 0) (vL 0))) (3 * n + 1) (td_pk (vX 1) (vY 1) (vR 1) (vL 1))) (3 * n + 2) (td_pk (vX 2) (vY 2) (vR 2) (vL 2)))))), (pT, .inl (cI, 512, .inl fT)), (pV, .inl (cI, 512, .inl fV)), (qS, .inr (0, [.ref aX, .ref aY, .ref aR, .ref aL, .ref aW])), (aX, .inl (cJ, 3, .inr (.inl vX))), (aY, .inl (cJ, 3, .inr (.inl vY))), (aR, .inl (cJ, 3, .inr (.inl vR))), (aL, .inl (cJ, 3, .inr (.inl vL))), (aW, .inl (cJ, 3, .inr (.inl vW)))] H := hP
          have hD : va_D A [(qP, .inr (1, [.ref pC, .ref pT, .ref pV, .int (nI n)])), (pC, .inl (cJ, 1536, .inr (.inl (vp_updL (vp_updL (vp_updL fC (3 * n + 0) (td_pk (vX 0) (vY 0) (vR 0) (vL 0))) (3 * n + 1) (td_pk (vX 1) (vY 1) (vR 1) (vL 1))) (3 * n + 2) (td_pk (vX 2) (vY 2) (vR 2) (vL 2)))))), (pT, .inl (cI, 512, .inl fT)), (pV, .inl (cI, 512, .inl fV)), (qS, .inr (0, [.ref aX, .ref aY, .ref aR, .ref aL, .ref aW])), (aX, .inl (cJ, 3, .inr (.inl vX))), (aY, .inl (cJ, 3, .inr (.inl vY))), (aR, .inl (cJ, 3, .inr (.inl vR))), (aL, .inl (cJ, 3, .inr (.inl vL))), (aW, .inl (cJ, 3, .inr (.inl vW)))] := hD
          refine lv_iinc (v := nI 3) (lv' := [(4, .int (nI 3)), (0, .ref qP), (1, .ref qS), (2, .int tn), (3, .int cv)]) hx hb dX1_append_41 hl (k := 0) rfl (nI_add 2 1) (by decide) rfl (fun ls hl => ?_)
          refine lv_goto (tgt := 15) hx hb dX1_append_44 (by decide) ?_
          refine lv_iload hx hb dX1_append_15 (lv_at hl 0 rfl) ?_
          refine lv_iconst (v := 3) hx hb dX1_append_17 (by decide) ?_
          refine lv_icmp_ge (tgt := 47) hx hb dX1_append_18 (by decide) (fun c18_4 => ?_) (fun c18_4 => ?_)
          · refine lv_aload_n hx hb dX1_append_47 rfl (lv_at hl 1 rfl) ?_
            refine va_get (D := (dC, dI)) (ci := 1) (v := .ref pT) (C := RX1) (T := TX1) (N := 4) hx hb hts td_fX1 hown hK hP 0 rfl rfl 1 (by decide) (hts (.fieldLink RX1 15 "TileDesk$Pieces" "tints" "[I") (td_i2 (List.mem_of_getElem? (i := 8) rfl))) (fun _ h9 => h9) rfl dX1_append_48 ?_
            refine lv_aload_n hx hb dX1_append_51 rfl (lv_at hl 1 rfl) ?_
            refine va_get (D := (dC, dI)) (ci := 1) (v := .int (nI n)) (C := RX1) (T := TX1) (N := 4) hx hb hts td_fX1 hown hK hP 0 rfl rfl 3 (by decide) (hts (.fieldLink RX1 22 "TileDesk$Pieces" "size" "I") (td_i2 (List.mem_of_getElem? (i := 10) rfl))) (fun _ h9 => h9) rfl dX1_append_52 ?_
            refine lv_iload_n hx hb dX1_append_55 rfl (lv_at hl 3 rfl) ?_
            refine td_iast hx hb hK hP hD hS 2 0 n rfl rfl rfl (by omega) (by decide) dX1_append_56 (fun H locs hP hD hS => ?_)
            have hP : va_P (dC, dI) vwCl [(qP, .inr (1, [.ref pC, .ref pT, .ref pV, .int (nI n)])), (pC, .inl (cJ, 1536, .inr (.inl (vp_updL (vp_updL (vp_updL fC (3 * n + 0) (td_pk (vX 0) (vY 0) (vR 0) (vL 0))) (3 * n + 1) (td_pk (vX 1) (vY 1) (vR 1) (vL 1))) (3 * n + 2) (td_pk (vX 2) (vY 2) (vR 2) (vL 2)))))), (pT, .inl (cI, 512, .inl (upd fT n tn))), (pV, .inl (cI, 512, .inl fV)), (qS, .inr (0, [.ref aX, .ref aY, .ref aR, .ref aL, .ref aW])), (aX, .inl (cJ, 3, .inr (.inl vX))), (aY, .inl (cJ, 3, .inr (.inl vY))), (aR, .inl (cJ, 3, .inr (.inl vR))), (aL, .inl (cJ, 3, .inr (.inl vL))), (aW, .inl (cJ, 3, .inr (.inl vW)))] H := hP
            have hD : va_D A [(qP, .inr (1, [.ref pC, .ref pT, .ref pV, .int (nI n)])), (pC, .inl (cJ, 1536, .inr (.inl (vp_updL (vp_updL (vp_updL fC (3 * n + 0) (td_pk (vX 0) (vY 0) (vR 0) (vL 0))) (3 * n + 1) (td_pk (vX 1) (vY 1) (vR 1) (vL 1))) (3 * n + 2) (td_pk (vX 2) (vY 2) (vR 2) (vL 2)))))), (pT, .inl (cI, 512, .inl (upd fT n tn))), (pV, .inl (cI, 512, .inl fV)), (qS, .inr (0, [.ref aX, .ref aY, .ref aR, .ref aL, .ref aW])), (aX, .inl (cJ, 3, .inr (.inl vX))), (aY, .inl (cJ, 3, .inr (.inl vY))), (aR, .inl (cJ, 3, .inr (.inl vR))), (aL, .inl (cJ, 3, .inr (.inl vL))), (aW, .inl (cJ, 3, .inr (.inl vW)))] := hD
            refine lv_aload_n hx hb dX1_append_57 rfl (lv_at hl 1 rfl) ?_
            refine va_get (D := (dC, dI)) (ci := 1) (v := .ref pV) (C := RX1) (T := TX1) (N := 4) hx hb hts td_fX1 hown hK hP 0 rfl rfl 2 (by decide) (hts (.fieldLink RX1 19 "TileDesk$Pieces" "covers" "[I") (td_i2 (List.mem_of_getElem? (i := 9) rfl))) (fun _ h9 => h9) rfl dX1_append_58 ?_
            refine lv_aload_n hx hb dX1_append_61 rfl (lv_at hl 1 rfl) ?_
            refine va_get (D := (dC, dI)) (ci := 1) (v := .int (nI n)) (C := RX1) (T := TX1) (N := 4) hx hb hts td_fX1 hown hK hP 0 rfl rfl 3 (by decide) (hts (.fieldLink RX1 22 "TileDesk$Pieces" "size" "I") (td_i2 (List.mem_of_getElem? (i := 10) rfl))) (fun _ h9 => h9) rfl dX1_append_62 ?_
            refine lv_iload_n hx hb dX1_append_65 rfl (lv_at hl 4 rfl) ?_
            refine td_iast hx hb hK hP hD hS 3 0 n rfl rfl rfl (by omega) (by decide) dX1_append_66 (fun H locs hP hD hS => ?_)
            have hP : va_P (dC, dI) vwCl [(qP, .inr (1, [.ref pC, .ref pT, .ref pV, .int (nI n)])), (pC, .inl (cJ, 1536, .inr (.inl (vp_updL (vp_updL (vp_updL fC (3 * n + 0) (td_pk (vX 0) (vY 0) (vR 0) (vL 0))) (3 * n + 1) (td_pk (vX 1) (vY 1) (vR 1) (vL 1))) (3 * n + 2) (td_pk (vX 2) (vY 2) (vR 2) (vL 2)))))), (pT, .inl (cI, 512, .inl (upd fT n tn))), (pV, .inl (cI, 512, .inl (upd fV n cv))), (qS, .inr (0, [.ref aX, .ref aY, .ref aR, .ref aL, .ref aW])), (aX, .inl (cJ, 3, .inr (.inl vX))), (aY, .inl (cJ, 3, .inr (.inl vY))), (aR, .inl (cJ, 3, .inr (.inl vR))), (aL, .inl (cJ, 3, .inr (.inl vL))), (aW, .inl (cJ, 3, .inr (.inl vW)))] H := hP
            have hD : va_D A [(qP, .inr (1, [.ref pC, .ref pT, .ref pV, .int (nI n)])), (pC, .inl (cJ, 1536, .inr (.inl (vp_updL (vp_updL (vp_updL fC (3 * n + 0) (td_pk (vX 0) (vY 0) (vR 0) (vL 0))) (3 * n + 1) (td_pk (vX 1) (vY 1) (vR 1) (vL 1))) (3 * n + 2) (td_pk (vX 2) (vY 2) (vR 2) (vL 2)))))), (pT, .inl (cI, 512, .inl (upd fT n tn))), (pV, .inl (cI, 512, .inl (upd fV n cv))), (qS, .inr (0, [.ref aX, .ref aY, .ref aR, .ref aL, .ref aW])), (aX, .inl (cJ, 3, .inr (.inl vX))), (aY, .inl (cJ, 3, .inr (.inl vY))), (aR, .inl (cJ, 3, .inr (.inl vR))), (aL, .inl (cJ, 3, .inr (.inl vL))), (aW, .inl (cJ, 3, .inr (.inl vW)))] := hD
            refine lv_aload_n hx hb dX1_append_67 rfl (lv_at hl 1 rfl) ?_
            refine lv_dup hx hb dX1_append_68 rfl ?_
            refine va_get (D := (dC, dI)) (ci := 1) (v := .int (nI n)) (C := RX1) (T := TX1) (N := 4) hx hb hts td_fX1 hown hK hP 0 rfl rfl 3 (by decide) (hts (.fieldLink RX1 22 "TileDesk$Pieces" "size" "I") (td_i2 (List.mem_of_getElem? (i := 10) rfl))) (fun _ h9 => h9) rfl dX1_append_69 ?_
            refine lv_dup_x1 hx hb dX1_append_72 rfl rfl ?_
            refine lv_iconst (v := 1) hx hb dX1_append_73 (by decide) ?_
            refine lv_iadd hx hb dX1_append_74 ?_
            refine td_ti (nI (n + 1)) (nI_add n 1) ?_
            refine va_put (D := (dC, dI)) (ci := 1) (v := .int (nI (n + 1))) (ty := .int) (C := RX1) (T := TX1) (N := 4) hx hb hts td_fX1 tyX1 tyX1_ok nmX1 hown hK hP hD hS 0 rfl rfl 3 (by decide) (hts (.fieldLink RX1 22 "TileDesk$Pieces" "size" "I") (td_i2 (List.mem_of_getElem? (i := 10) rfl))) (fun _ h9 => h9) rfl (by decide +kernel) rfl rfl (Nat.le_of_ble_eq_true rfl) dX1_append_75 (fun H locs hP hD hS => ?_)
            have hP : va_P (dC, dI) vwCl [(qP, .inr (1, [.ref pC, .ref pT, .ref pV, .int (nI (n + 1))])), (pC, .inl (cJ, 1536, .inr (.inl (vp_updL (vp_updL (vp_updL fC (3 * n + 0) (td_pk (vX 0) (vY 0) (vR 0) (vL 0))) (3 * n + 1) (td_pk (vX 1) (vY 1) (vR 1) (vL 1))) (3 * n + 2) (td_pk (vX 2) (vY 2) (vR 2) (vL 2)))))), (pT, .inl (cI, 512, .inl (upd fT n tn))), (pV, .inl (cI, 512, .inl (upd fV n cv))), (qS, .inr (0, [.ref aX, .ref aY, .ref aR, .ref aL, .ref aW])), (aX, .inl (cJ, 3, .inr (.inl vX))), (aY, .inl (cJ, 3, .inr (.inl vY))), (aR, .inl (cJ, 3, .inr (.inl vR))), (aL, .inl (cJ, 3, .inr (.inl vL))), (aW, .inl (cJ, 3, .inr (.inl vW)))] H := hP
            have hD : va_D A [(qP, .inr (1, [.ref pC, .ref pT, .ref pV, .int (nI (n + 1))])), (pC, .inl (cJ, 1536, .inr (.inl (vp_updL (vp_updL (vp_updL fC (3 * n + 0) (td_pk (vX 0) (vY 0) (vR 0) (vL 0))) (3 * n + 1) (td_pk (vX 1) (vY 1) (vR 1) (vL 1))) (3 * n + 2) (td_pk (vX 2) (vY 2) (vR 2) (vL 2)))))), (pT, .inl (cI, 512, .inl (upd fT n tn))), (pV, .inl (cI, 512, .inl (upd fV n cv))), (qS, .inr (0, [.ref aX, .ref aY, .ref aR, .ref aL, .ref aW])), (aX, .inl (cJ, 3, .inr (.inl vX))), (aY, .inl (cJ, 3, .inr (.inl vY))), (aR, .inl (cJ, 3, .inr (.inl vR))), (aL, .inl (cJ, 3, .inr (.inl vL))), (aW, .inl (cJ, 3, .inr (.inl vW)))] := hD
            have hP9 := hP.sub (ws' := [(qP, .inr (1, [.ref pC, .ref pT, .ref pV, .int (nI (n + 1))])), (pC, .inl (cJ, 1536, .inr (.inl (vp_updL (vp_updL (vp_updL fC (3 * n + 0) (td_pk (vX 0) (vY 0) (vR 0) (vL 0))) (3 * n + 1) (td_pk (vX 1) (vY 1) (vR 1) (vL 1))) (3 * n + 2) (td_pk (vX 2) (vY 2) (vR 2) (vL 2)))))), (pT, .inl (cI, 512, .inl (upd fT n tn))), (pV, .inl (cI, 512, .inl (upd fV n cv))), (qS, .inr (0, [.ref aX, .ref aY, .ref aR, .ref aL, .ref aW])), (aX, .inl (cJ, 3, .inr (.inl vX))), (aY, .inl (cJ, 3, .inr (.inl vY))), (aR, .inl (cJ, 3, .inr (.inl vR))), (aL, .inl (cJ, 3, .inr (.inl vL))), (aW, .inl (cJ, 3, .inr (.inl vW)))]) [0, 1, 2, 3, 4, 5, 6, 7, 8, 9] rfl
            have hD9 := hD.sub (ws' := [(qP, .inr (1, [.ref pC, .ref pT, .ref pV, .int (nI (n + 1))])), (pC, .inl (cJ, 1536, .inr (.inl (vp_updL (vp_updL (vp_updL fC (3 * n + 0) (td_pk (vX 0) (vY 0) (vR 0) (vL 0))) (3 * n + 1) (td_pk (vX 1) (vY 1) (vR 1) (vL 1))) (3 * n + 2) (td_pk (vX 2) (vY 2) (vR 2) (vL 2)))))), (pT, .inl (cI, 512, .inl (upd fT n tn))), (pV, .inl (cI, 512, .inl (upd fV n cv))), (qS, .inr (0, [.ref aX, .ref aY, .ref aR, .ref aL, .ref aW])), (aX, .inl (cJ, 3, .inr (.inl vX))), (aY, .inl (cJ, 3, .inr (.inl vY))), (aR, .inl (cJ, 3, .inr (.inl vR))), (aL, .inl (cJ, 3, .inr (.inl vL))), (aW, .inl (cJ, 3, .inr (.inl vW)))]) [0, 1, 2, 3, 4, 5, 6, 7, 8, 9] (by decide) rfl
            exact td_rwi (vp_updL (vp_updL (vp_updL fC (3 * n + 0) (td_pk (vX 0) (vY 0) (vR 0) (vL 0))) (3 * n + 1) (td_pk (vX 1) (vY 1) (vR 1) (vL 1))) (3 * n + 2) (td_pk (vX 2) (vY 2) (vR 2) (vL 2)), upd fT n tn, upd fV n cv, n + 1) hx hb hr rfl hlocks hK (Or.inr ⟨hn2, rfl, rfl, rfl, rfl, rfl⟩) hP9 hD9 hS dX1_append_78
          · exact absurd c18_4 (by decide)
  · have hn2 : n = 512 := by rcases Nat.lt_or_ge n 512 with h | h; exact absurd (nI_lt h (by omega)) c7; omega
    refine lv_iconst (v := (-1)) hx hb dX1_append_10 (by decide) ?_
    have hP9 := hP.sub (ws' := [(qP, .inr (1, [.ref pC, .ref pT, .ref pV, .int (nI n)])), (pC, .inl (cJ, 1536, .inr (.inl fC))), (pT, .inl (cI, 512, .inl fT)), (pV, .inl (cI, 512, .inl fV)), (qS, .inr (0, [.ref aX, .ref aY, .ref aR, .ref aL, .ref aW])), (aX, .inl (cJ, 3, .inr (.inl vX))), (aY, .inl (cJ, 3, .inr (.inl vY))), (aR, .inl (cJ, 3, .inr (.inl vR))), (aL, .inl (cJ, 3, .inr (.inl vL))), (aW, .inl (cJ, 3, .inr (.inl vW)))]) [0, 1, 2, 3, 4, 5, 6, 7, 8, 9] rfl
    have hD9 := hD.sub (ws' := [(qP, .inr (1, [.ref pC, .ref pT, .ref pV, .int (nI n)])), (pC, .inl (cJ, 1536, .inr (.inl fC))), (pT, .inl (cI, 512, .inl fT)), (pV, .inl (cI, 512, .inl fV)), (qS, .inr (0, [.ref aX, .ref aY, .ref aR, .ref aL, .ref aW])), (aX, .inl (cJ, 3, .inr (.inl vX))), (aY, .inl (cJ, 3, .inr (.inl vY))), (aR, .inl (cJ, 3, .inr (.inl vR))), (aL, .inl (cJ, 3, .inr (.inl vL))), (aW, .inl (cJ, 3, .inr (.inl vW)))]) [0, 1, 2, 3, 4, 5, 6, 7, 8, 9] (by decide) rfl
    exact td_rwi (fC, fT, fV, n) hx hb hr rfl hlocks hK (Or.inl ⟨hn2, rfl, rfl, rfl, rfl, rfl⟩) hP9 hD9 hS dX1_append_11
set_option maxHeartbeats 4000000 in
set_option maxRecDepth 100000 in
/-- Pieces.copyFrom -/
theorem td_copyFrom (l : Launch) (dC : Nat → ClassId) (dI : Nat → Nat → Nat) (cI cJ cZ : ClassId) (sz : Nat) (qP : Nat) (pC : Nat) (pT : Nat) (pV : Nat) (fC : Nat → Int64) (fT : Nat → Int32) (fV : Nat → Int32) (n : Nat) (qP2 : Nat) (pC2 : Nat) (pT2 : Nat) (pV2 : Nat) (fC2 : Nat → Int64) (fT2 : Nat → Int32) (fV2 : Nat → Int32) (n2 : Nat) (hn : n2 ≤ 512) : Met l yX1_copyFrom wsX1_copyFrom ({ frames := 1, cells := 0, slots := 0, locals := 18 }) (td_WP (dC, dI) vwCl (td_T cI cJ cZ) td_nl [(qP, .inr (1, [.ref pC, .ref pT, .ref pV, .int (nI n)])), (pC, .inl (cJ, 1536, .inr (.inl fC))), (pT, .inl (cI, 512, .inl fT)), (pV, .inl (cI, 512, .inl fV)), (qP2, .inr (1, [.ref pC2, .ref pT2, .ref pV2, .int (nI n2)])), (pC2, .inl (cJ, 1536, .inr (.inl fC2))), (pT2, .inl (cI, 512, .inl fT2)), (pV2, .inl (cI, 512, .inl fV2))] sz [.ref qP, .ref qP2]) (va_Qv (S := Unit) (fun u => True) (td_B (dC, dI) vwCl (td_T cI cJ cZ) (va_A [(qP, .inr (1, [.ref pC, .ref pT, .ref pV, .int (nI n)])), (pC, .inl (cJ, 1536, .inr (.inl fC))), (pT, .inl (cI, 512, .inl fT)), (pV, .inl (cI, 512, .inl fV)), (qP2, .inr (1, [.ref pC2, .ref pT2, .ref pV2, .int (nI n2)])), (pC2, .inl (cJ, 1536, .inr (.inl fC2))), (pT2, .inl (cI, 512, .inl fT2)), (pV2, .inl (cI, 512, .inl fV2))] sz) (fun (u : Unit) => [(qP, .inr (1, [.ref pC, .ref pT, .ref pV, .int (nI n2)])), (pC, .inl (cJ, 1536, .inr (.inl (va_cpy fC2 fC 0 0 (3 * n2))))), (pT, .inl (cI, 512, .inl (va_cpy fT2 fT 0 0 n2))), (pV, .inl (cI, 512, .inl (va_cpy fV2 fV 0 0 n2))), (qP2, .inr (1, [.ref pC2, .ref pT2, .ref pV2, .int (nI n2)])), (pC2, .inl (cJ, 1536, .inr (.inl fC2))), (pT2, .inl (cI, 512, .inl fT2)), (pV2, .inl (cI, 512, .inl fV2))])) (va_A [(qP, .inr (1, [.ref pC, .ref pT, .ref pV, .int (nI n)])), (pC, .inl (cJ, 1536, .inr (.inl fC))), (pT, .inl (cI, 512, .inl fT)), (pV, .inl (cI, 512, .inl fV)), (qP2, .inr (1, [.ref pC2, .ref pT2, .ref pV2, .int (nI n2)])), (pC2, .inl (cJ, 1536, .inr (.inl fC2))), (pT2, .inl (cI, 512, .inl fT2)), (pV2, .inl (cI, 512, .inl fV2))] sz)) 0 0 (va_A [(qP, .inr (1, [.ref pC, .ref pT, .ref pV, .int (nI n)])), (pC, .inl (cJ, 1536, .inr (.inl fC))), (pT, .inl (cI, 512, .inl fT)), (pV, .inl (cI, 512, .inl fV)), (qP2, .inr (1, [.ref pC2, .ref pT2, .ref pV2, .int (nI n2)])), (pC2, .inl (cJ, 1536, .inr (.inl fC2))), (pT2, .inl (cI, 512, .inl fT2)), (pV2, .inl (cI, 512, .inl fV2))] sz) := by
  refine Met.ofW (cc := cX1_copyFrom) (maxL := 2) (ret := none) (by decide) rfl ?_
  intro p e s m args below meth c s₁ B hml hv
  obtain ⟨rfl, hsz, hP, hK, hZ, hD0⟩ := hv
  have hx := B.exec
  have hb := B.bytes
  have hr := B.returns
  have hts := atoms_spec (ws := wsX1_copyFrom) B.pre
  have hown : s.vm.findClass RX1 = some m.cls := findClass_of_methodNamed B.named
  have hlocks := B.notSynchronized
  subst hsz
  have hD := hD0.self (sz := s.heap.size)
  generalize hAe : va_A [(qP, .inr (1, [.ref pC, .ref pT, .ref pV, .int (nI n)])), (pC, .inl (cJ, 1536, .inr (.inl fC))), (pT, .inl (cI, 512, .inl fT)), (pV, .inl (cI, 512, .inl fV)), (qP2, .inr (1, [.ref pC2, .ref pT2, .ref pV2, .int (nI n2)])), (pC2, .inl (cJ, 1536, .inr (.inl fC2))), (pT2, .inl (cI, 512, .inl fT2)), (pV2, .inl (cI, 512, .inl fV2))] s.heap.size = A at hD ⊢
  have hA : ∀ q : Nat, s.heap.size ≤ q → A q := fun q h => by rw [← hAe]; exact Or.inr h
  have hS : va_S A s.heap s.heap [] := va_S.rf
  have hP : va_P (dC, dI) vwCl [(qP, .inr (1, [.ref pC, .ref pT, .ref pV, .int (nI n)])), (pC, .inl (cJ, 1536, .inr (.inl fC))), (pT, .inl (cI, 512, .inl fT)), (pV, .inl (cI, 512, .inl fV)), (qP2, .inr (1, [.ref pC2, .ref pT2, .ref pV2, .int (nI n2)])), (pC2, .inl (cJ, 1536, .inr (.inl fC2))), (pT2, .inl (cI, 512, .inl fT2)), (pV2, .inl (cI, 512, .inl fV2))] s.heap := hP
  have hl := lv_entry ([.ref qP, .ref qP2]) (n := 2) (Nat.le_of_ble_eq_true rfl)
  rw [lg_entry_eq]
  generalize (lg_sl ([.ref qP, .ref qP2]) ++ List.replicate (2 - (lg_sl ([.ref qP, .ref qP2])).length) Slot.unset).toArray = ls at hl ⊢
  have hl : lv_has ls 2 [(0, .ref qP), (1, .ref qP2)] := hl
  refine lv_aload_n hx hb dX1_copyFrom_0 rfl (lv_at hl 0 rfl) ?_
  refine lv_aload_n hx hb dX1_copyFrom_1 rfl (lv_at hl 1 rfl) ?_
  refine va_get (D := (dC, dI)) (ci := 1) (v := .int (nI n2)) (C := RX1) (T := TX1) (N := 4) hx hb hts td_fX1 hown hK hP 4 rfl rfl 3 (by decide) (hts (.fieldLink RX1 22 "TileDesk$Pieces" "size" "I") (td_i2 (List.mem_of_getElem? (i := 10) rfl))) (fun _ h9 => h9) rfl dX1_copyFrom_2 ?_
  refine va_put (D := (dC, dI)) (ci := 1) (v := .int (nI n2)) (ty := .int) (C := RX1) (T := TX1) (N := 4) hx hb hts td_fX1 tyX1 tyX1_ok nmX1 hown hK hP hD hS 0 rfl rfl 3 (by decide) (hts (.fieldLink RX1 22 "TileDesk$Pieces" "size" "I") (td_i2 (List.mem_of_getElem? (i := 10) rfl))) (fun _ h9 => h9) rfl (by decide +kernel) rfl rfl (Nat.le_of_ble_eq_true rfl) dX1_copyFrom_5 (fun H locs hP hD hS => ?_)
  have hP : va_P (dC, dI) vwCl [(qP, .inr (1, [.ref pC, .ref pT, .ref pV, .int (nI n2)])), (pC, .inl (cJ, 1536, .inr (.inl fC))), (pT, .inl (cI, 512, .inl fT)), (pV, .inl (cI, 512, .inl fV)), (qP2, .inr (1, [.ref pC2, .ref pT2, .ref pV2, .int (nI n2)])), (pC2, .inl (cJ, 1536, .inr (.inl fC2))), (pT2, .inl (cI, 512, .inl fT2)), (pV2, .inl (cI, 512, .inl fV2))] H := hP
  have hD : va_D A [(qP, .inr (1, [.ref pC, .ref pT, .ref pV, .int (nI n2)])), (pC, .inl (cJ, 1536, .inr (.inl fC))), (pT, .inl (cI, 512, .inl fT)), (pV, .inl (cI, 512, .inl fV)), (qP2, .inr (1, [.ref pC2, .ref pT2, .ref pV2, .int (nI n2)])), (pC2, .inl (cJ, 1536, .inr (.inl fC2))), (pT2, .inl (cI, 512, .inl fT2)), (pV2, .inl (cI, 512, .inl fV2))] := hD
  refine lv_aload_n hx hb dX1_copyFrom_8 rfl (lv_at hl 1 rfl) ?_
  refine va_get (D := (dC, dI)) (ci := 1) (v := .ref pC2) (C := RX1) (T := TX1) (N := 4) hx hb hts td_fX1 hown hK hP 4 rfl rfl 0 (by decide) (hts (.fieldLink RX1 9 "TileDesk$Pieces" "corners" "[J") (td_i2 (List.mem_of_getElem? (i := 7) rfl))) (fun _ h9 => h9) rfl dX1_copyFrom_9 ?_
  refine lv_iconst (v := 0) hx hb dX1_copyFrom_12 (by decide) ?_
  refine lv_aload_n hx hb dX1_copyFrom_13 rfl (lv_at hl 0 rfl) ?_
  refine va_get (D := (dC, dI)) (ci := 1) (v := .ref pC) (C := RX1) (T := TX1) (N := 4) hx hb hts td_fX1 hown hK hP 0 rfl rfl 0 (by decide) (hts (.fieldLink RX1 9 "TileDesk$Pieces" "corners" "[J") (td_i2 (List.mem_of_getElem? (i := 7) rfl))) (fun _ h9 => h9) rfl dX1_copyFrom_14 ?_
  refine lv_iconst (v := 0) hx hb dX1_copyFrom_17 (by decide) ?_
  refine lv_iconst (v := 3) hx hb dX1_copyFrom_18 (by decide) ?_
  refine lv_aload_n hx hb dX1_copyFrom_19 rfl (lv_at hl 0 rfl) ?_
  refine va_get (D := (dC, dI)) (ci := 1) (v := .int (nI n2)) (C := RX1) (T := TX1) (N := 4) hx hb hts td_fX1 hown hK hP 0 rfl rfl 3 (by decide) (hts (.fieldLink RX1 22 "TileDesk$Pieces" "size" "I") (td_i2 (List.mem_of_getElem? (i := 10) rfl))) (fun _ h9 => h9) rfl dX1_copyFrom_20 ?_
  refine lv_imul hx hb dX1_copyFrom_23 ?_
  refine td_ti (nI (3 * n2)) (pk_mul 3 n2) ?_
  refine va_copyl hx hb (by rw [hml]; exact hl.1.symm) hown (hts _ (td_i6 (List.mem_of_getElem? (i := 12) rfl))) (hts _ (td_i6 (List.mem_of_getElem? (i := 14) rfl))) (hts _ (td_i6 (List.mem_of_getElem? (i := 13) rfl))) (hts _ (td_i1 (List.mem_of_getElem? (i := 7) rfl))) hK hP hD hS 5 1 1 1 rfl rfl rfl rfl rfl (by decide) (by decide) (nI_pos (by omega)) (by rw [nI_clamp (by omega), sb_cl0]; omega) (by rw [nI_clamp (by omega), sb_cl0]; omega) (fun _ _ => rfl) (Nat.le_of_ble_eq_true rfl) (Nat.le_of_ble_eq_true rfl) dX1_copyFrom_24 (fun H locs hP hD hS => ?_)
  rw [nI_clamp (by omega), sb_cl0] at hP hD
  have hP : va_P (dC, dI) vwCl [(qP, .inr (1, [.ref pC, .ref pT, .ref pV, .int (nI n2)])), (pC, .inl (cJ, 1536, .inr (.inl (va_cpy fC2 fC 0 0 (3 * n2))))), (pT, .inl (cI, 512, .inl fT)), (pV, .inl (cI, 512, .inl fV)), (qP2, .inr (1, [.ref pC2, .ref pT2, .ref pV2, .int (nI n2)])), (pC2, .inl (cJ, 1536, .inr (.inl fC2))), (pT2, .inl (cI, 512, .inl fT2)), (pV2, .inl (cI, 512, .inl fV2))] H := hP
  have hD : va_D A [(qP, .inr (1, [.ref pC, .ref pT, .ref pV, .int (nI n2)])), (pC, .inl (cJ, 1536, .inr (.inl (va_cpy fC2 fC 0 0 (3 * n2))))), (pT, .inl (cI, 512, .inl fT)), (pV, .inl (cI, 512, .inl fV)), (qP2, .inr (1, [.ref pC2, .ref pT2, .ref pV2, .int (nI n2)])), (pC2, .inl (cJ, 1536, .inr (.inl fC2))), (pT2, .inl (cI, 512, .inl fT2)), (pV2, .inl (cI, 512, .inl fV2))] := hD
  refine lv_aload_n hx hb dX1_copyFrom_27 rfl (lv_at hl 1 rfl) ?_
  refine va_get (D := (dC, dI)) (ci := 1) (v := .ref pT2) (C := RX1) (T := TX1) (N := 4) hx hb hts td_fX1 hown hK hP 4 rfl rfl 1 (by decide) (hts (.fieldLink RX1 15 "TileDesk$Pieces" "tints" "[I") (td_i2 (List.mem_of_getElem? (i := 8) rfl))) (fun _ h9 => h9) rfl dX1_copyFrom_28 ?_
  refine lv_iconst (v := 0) hx hb dX1_copyFrom_31 (by decide) ?_
  refine lv_aload_n hx hb dX1_copyFrom_32 rfl (lv_at hl 0 rfl) ?_
  refine va_get (D := (dC, dI)) (ci := 1) (v := .ref pT) (C := RX1) (T := TX1) (N := 4) hx hb hts td_fX1 hown hK hP 0 rfl rfl 1 (by decide) (hts (.fieldLink RX1 15 "TileDesk$Pieces" "tints" "[I") (td_i2 (List.mem_of_getElem? (i := 8) rfl))) (fun _ h9 => h9) rfl dX1_copyFrom_33 ?_
  refine lv_iconst (v := 0) hx hb dX1_copyFrom_36 (by decide) ?_
  refine lv_aload_n hx hb dX1_copyFrom_37 rfl (lv_at hl 0 rfl) ?_
  refine va_get (D := (dC, dI)) (ci := 1) (v := .int (nI n2)) (C := RX1) (T := TX1) (N := 4) hx hb hts td_fX1 hown hK hP 0 rfl rfl 3 (by decide) (hts (.fieldLink RX1 22 "TileDesk$Pieces" "size" "I") (td_i2 (List.mem_of_getElem? (i := 10) rfl))) (fun _ h9 => h9) rfl dX1_copyFrom_38 ?_
  refine va_copyi hx hb (by rw [hml]; exact hl.1.symm) hown (hts _ (td_i6 (List.mem_of_getElem? (i := 12) rfl))) (hts _ (td_i6 (List.mem_of_getElem? (i := 14) rfl))) (hts _ (td_i6 (List.mem_of_getElem? (i := 13) rfl))) (hts _ (td_i1 (List.mem_of_getElem? (i := 7) rfl))) hK hP hD hS 6 2 0 0 rfl rfl rfl rfl rfl (by decide) (by decide) (nI_pos (by omega)) (by rw [nI_clamp (by omega), sb_cl0]; omega) (by rw [nI_clamp (by omega), sb_cl0]; omega) (fun _ _ => rfl) (Nat.le_of_ble_eq_true rfl) (Nat.le_of_ble_eq_true rfl) dX1_copyFrom_41 (fun H locs hP hD hS => ?_)
  rw [nI_clamp (by omega), sb_cl0] at hP hD
  have hP : va_P (dC, dI) vwCl [(qP, .inr (1, [.ref pC, .ref pT, .ref pV, .int (nI n2)])), (pC, .inl (cJ, 1536, .inr (.inl (va_cpy fC2 fC 0 0 (3 * n2))))), (pT, .inl (cI, 512, .inl (va_cpy fT2 fT 0 0 n2))), (pV, .inl (cI, 512, .inl fV)), (qP2, .inr (1, [.ref pC2, .ref pT2, .ref pV2, .int (nI n2)])), (pC2, .inl (cJ, 1536, .inr (.inl fC2))), (pT2, .inl (cI, 512, .inl fT2)), (pV2, .inl (cI, 512, .inl fV2))] H := hP
  have hD : va_D A [(qP, .inr (1, [.ref pC, .ref pT, .ref pV, .int (nI n2)])), (pC, .inl (cJ, 1536, .inr (.inl (va_cpy fC2 fC 0 0 (3 * n2))))), (pT, .inl (cI, 512, .inl (va_cpy fT2 fT 0 0 n2))), (pV, .inl (cI, 512, .inl fV)), (qP2, .inr (1, [.ref pC2, .ref pT2, .ref pV2, .int (nI n2)])), (pC2, .inl (cJ, 1536, .inr (.inl fC2))), (pT2, .inl (cI, 512, .inl fT2)), (pV2, .inl (cI, 512, .inl fV2))] := hD
  refine lv_aload_n hx hb dX1_copyFrom_44 rfl (lv_at hl 1 rfl) ?_
  refine va_get (D := (dC, dI)) (ci := 1) (v := .ref pV2) (C := RX1) (T := TX1) (N := 4) hx hb hts td_fX1 hown hK hP 4 rfl rfl 2 (by decide) (hts (.fieldLink RX1 19 "TileDesk$Pieces" "covers" "[I") (td_i2 (List.mem_of_getElem? (i := 9) rfl))) (fun _ h9 => h9) rfl dX1_copyFrom_45 ?_
  refine lv_iconst (v := 0) hx hb dX1_copyFrom_48 (by decide) ?_
  refine lv_aload_n hx hb dX1_copyFrom_49 rfl (lv_at hl 0 rfl) ?_
  refine va_get (D := (dC, dI)) (ci := 1) (v := .ref pV) (C := RX1) (T := TX1) (N := 4) hx hb hts td_fX1 hown hK hP 0 rfl rfl 2 (by decide) (hts (.fieldLink RX1 19 "TileDesk$Pieces" "covers" "[I") (td_i2 (List.mem_of_getElem? (i := 9) rfl))) (fun _ h9 => h9) rfl dX1_copyFrom_50 ?_
  refine lv_iconst (v := 0) hx hb dX1_copyFrom_53 (by decide) ?_
  refine lv_aload_n hx hb dX1_copyFrom_54 rfl (lv_at hl 0 rfl) ?_
  refine va_get (D := (dC, dI)) (ci := 1) (v := .int (nI n2)) (C := RX1) (T := TX1) (N := 4) hx hb hts td_fX1 hown hK hP 0 rfl rfl 3 (by decide) (hts (.fieldLink RX1 22 "TileDesk$Pieces" "size" "I") (td_i2 (List.mem_of_getElem? (i := 10) rfl))) (fun _ h9 => h9) rfl dX1_copyFrom_55 ?_
  refine va_copyi hx hb (by rw [hml]; exact hl.1.symm) hown (hts _ (td_i6 (List.mem_of_getElem? (i := 12) rfl))) (hts _ (td_i6 (List.mem_of_getElem? (i := 14) rfl))) (hts _ (td_i6 (List.mem_of_getElem? (i := 13) rfl))) (hts _ (td_i1 (List.mem_of_getElem? (i := 7) rfl))) hK hP hD hS 7 3 0 0 rfl rfl rfl rfl rfl (by decide) (by decide) (nI_pos (by omega)) (by rw [nI_clamp (by omega), sb_cl0]; omega) (by rw [nI_clamp (by omega), sb_cl0]; omega) (fun _ _ => rfl) (Nat.le_of_ble_eq_true rfl) (Nat.le_of_ble_eq_true rfl) dX1_copyFrom_58 (fun H locs hP hD hS => ?_)
  rw [nI_clamp (by omega), sb_cl0] at hP hD
  have hP : va_P (dC, dI) vwCl [(qP, .inr (1, [.ref pC, .ref pT, .ref pV, .int (nI n2)])), (pC, .inl (cJ, 1536, .inr (.inl (va_cpy fC2 fC 0 0 (3 * n2))))), (pT, .inl (cI, 512, .inl (va_cpy fT2 fT 0 0 n2))), (pV, .inl (cI, 512, .inl (va_cpy fV2 fV 0 0 n2))), (qP2, .inr (1, [.ref pC2, .ref pT2, .ref pV2, .int (nI n2)])), (pC2, .inl (cJ, 1536, .inr (.inl fC2))), (pT2, .inl (cI, 512, .inl fT2)), (pV2, .inl (cI, 512, .inl fV2))] H := hP
  have hD : va_D A [(qP, .inr (1, [.ref pC, .ref pT, .ref pV, .int (nI n2)])), (pC, .inl (cJ, 1536, .inr (.inl (va_cpy fC2 fC 0 0 (3 * n2))))), (pT, .inl (cI, 512, .inl (va_cpy fT2 fT 0 0 n2))), (pV, .inl (cI, 512, .inl (va_cpy fV2 fV 0 0 n2))), (qP2, .inr (1, [.ref pC2, .ref pT2, .ref pV2, .int (nI n2)])), (pC2, .inl (cJ, 1536, .inr (.inl fC2))), (pT2, .inl (cI, 512, .inl fT2)), (pV2, .inl (cI, 512, .inl fV2))] := hD
  have hP9 := hP.sub (ws' := [(qP, .inr (1, [.ref pC, .ref pT, .ref pV, .int (nI n2)])), (pC, .inl (cJ, 1536, .inr (.inl (va_cpy fC2 fC 0 0 (3 * n2))))), (pT, .inl (cI, 512, .inl (va_cpy fT2 fT 0 0 n2))), (pV, .inl (cI, 512, .inl (va_cpy fV2 fV 0 0 n2))), (qP2, .inr (1, [.ref pC2, .ref pT2, .ref pV2, .int (nI n2)])), (pC2, .inl (cJ, 1536, .inr (.inl fC2))), (pT2, .inl (cI, 512, .inl fT2)), (pV2, .inl (cI, 512, .inl fV2))]) [0, 1, 2, 3, 4, 5, 6, 7] rfl
  have hD9 := hD.sub (ws' := [(qP, .inr (1, [.ref pC, .ref pT, .ref pV, .int (nI n2)])), (pC, .inl (cJ, 1536, .inr (.inl (va_cpy fC2 fC 0 0 (3 * n2))))), (pT, .inl (cI, 512, .inl (va_cpy fT2 fT 0 0 n2))), (pV, .inl (cI, 512, .inl (va_cpy fV2 fV 0 0 n2))), (qP2, .inr (1, [.ref pC2, .ref pT2, .ref pV2, .int (nI n2)])), (pC2, .inl (cJ, 1536, .inr (.inl fC2))), (pT2, .inl (cI, 512, .inl fT2)), (pV2, .inl (cI, 512, .inl fV2))]) [0, 1, 2, 3, 4, 5, 6, 7] (by decide) rfl
  exact td_rwv () hx hb hr hlocks hK (trivial) hP9 hD9 hS dX1_copyFrom_61
set_option maxHeartbeats 4000000 in
set_option maxRecDepth 100000 in
/-- Pieces.unpackTo -/
theorem td_unpackTo (l : Launch) (dC : Nat → ClassId) (dI : Nat → Nat → Nat) (cI cJ cZ : ClassId) (sz : Nat) (qP : Nat) (pC : Nat) (pT : Nat) (pV : Nat) (fC : Nat → Int64) (fT : Nat → Int32) (fV : Nat → Int32) (n : Nat) (qS : Nat) (aX : Nat) (aY : Nat) (aR : Nat) (aL : Nat) (aW : Nat) (vX : Nat → Int64) (vY : Nat → Int64) (vR : Nat → Int64) (vL : Nat → Int64) (vW : Nat → Int64) (k : Nat) (hk : k < 512) : Met l yX1_unpackTo wsX1_unpackTo ({ frames := 2, cells := 0, slots := 0, locals := 56 }) (td_WP (dC, dI) vwCl (td_T cI cJ cZ) td_nl [(qP, .inr (1, [.ref pC, .ref pT, .ref pV, .int (nI n)])), (pC, .inl (cJ, 1536, .inr (.inl fC))), (pT, .inl (cI, 512, .inl fT)), (pV, .inl (cI, 512, .inl fV)), (qS, .inr (0, [.ref aX, .ref aY, .ref aR, .ref aL, .ref aW])), (aX, .inl (cJ, 3, .inr (.inl vX))), (aY, .inl (cJ, 3, .inr (.inl vY))), (aR, .inl (cJ, 3, .inr (.inl vR))), (aL, .inl (cJ, 3, .inr (.inl vL))), (aW, .inl (cJ, 3, .inr (.inl vW)))] sz [.ref qP, .ref qS, .int (nI k)]) (va_Qv (S := Unit) (fun u => True) (td_B (dC, dI) vwCl (td_T cI cJ cZ) (va_A [(qP, .inr (1, [.ref pC, .ref pT, .ref pV, .int (nI n)])), (pC, .inl (cJ, 1536, .inr (.inl fC))), (pT, .inl (cI, 512, .inl fT)), (pV, .inl (cI, 512, .inl fV)), (qS, .inr (0, [.ref aX, .ref aY, .ref aR, .ref aL, .ref aW])), (aX, .inl (cJ, 3, .inr (.inl vX))), (aY, .inl (cJ, 3, .inr (.inl vY))), (aR, .inl (cJ, 3, .inr (.inl vR))), (aL, .inl (cJ, 3, .inr (.inl vL))), (aW, .inl (cJ, 3, .inr (.inl vW)))] sz) (fun (u : Unit) => [(qP, .inr (1, [.ref pC, .ref pT, .ref pV, .int (nI n)])), (pC, .inl (cJ, 1536, .inr (.inl fC))), (pT, .inl (cI, 512, .inl fT)), (pV, .inl (cI, 512, .inl fV)), (qS, .inr (0, [.ref aX, .ref aY, .ref aR, .ref aL, .ref aW])), (aX, .inl (cJ, 3, .inr (.inl (vp_updL (vp_updL (vp_updL vX 0 (td_ux (fC (3 * k + 0)))) 1 (td_ux (fC (3 * k + 1)))) 2 (td_ux (fC (3 * k + 2))))))), (aY, .inl (cJ, 3, .inr (.inl (vp_updL (vp_updL (vp_updL vY 0 (td_uy (fC (3 * k + 0)))) 1 (td_uy (fC (3 * k + 1)))) 2 (td_uy (fC (3 * k + 2))))))), (aR, .inl (cJ, 3, .inr (.inl (vp_updL (vp_updL (vp_updL vR 0 (td_ur (fC (3 * k + 0)))) 1 (td_ur (fC (3 * k + 1)))) 2 (td_ur (fC (3 * k + 2))))))), (aL, .inl (cJ, 3, .inr (.inl (vp_updL (vp_updL (vp_updL vL 0 (td_ul (fC (3 * k + 0)))) 1 (td_ul (fC (3 * k + 1)))) 2 (td_ul (fC (3 * k + 2))))))), (aW, .inl (cJ, 3, .inr (.inl vW)))])) (va_A [(qP, .inr (1, [.ref pC, .ref pT, .ref pV, .int (nI n)])), (pC, .inl (cJ, 1536, .inr (.inl fC))), (pT, .inl (cI, 512, .inl fT)), (pV, .inl (cI, 512, .inl fV)), (qS, .inr (0, [.ref aX, .ref aY, .ref aR, .ref aL, .ref aW])), (aX, .inl (cJ, 3, .inr (.inl vX))), (aY, .inl (cJ, 3, .inr (.inl vY))), (aR, .inl (cJ, 3, .inr (.inl vR))), (aL, .inl (cJ, 3, .inr (.inl vL))), (aW, .inl (cJ, 3, .inr (.inl vW)))] sz)) 0 0 (va_A [(qP, .inr (1, [.ref pC, .ref pT, .ref pV, .int (nI n)])), (pC, .inl (cJ, 1536, .inr (.inl fC))), (pT, .inl (cI, 512, .inl fT)), (pV, .inl (cI, 512, .inl fV)), (qS, .inr (0, [.ref aX, .ref aY, .ref aR, .ref aL, .ref aW])), (aX, .inl (cJ, 3, .inr (.inl vX))), (aY, .inl (cJ, 3, .inr (.inl vY))), (aR, .inl (cJ, 3, .inr (.inl vR))), (aL, .inl (cJ, 3, .inr (.inl vL))), (aW, .inl (cJ, 3, .inr (.inl vW)))] sz) := by
  refine Met.ofW (cc := cX1_unpackTo) (maxL := 4) (ret := none) (by decide) rfl ?_
  intro p e s m args below meth c s₁ B hml hv
  obtain ⟨rfl, hsz, hP, hK, hZ, hD0⟩ := hv
  have hx := B.exec
  have hb := B.bytes
  have hr := B.returns
  have hts := atoms_spec (ws := wsX1_unpackTo) B.pre
  have hown : s.vm.findClass RX1 = some m.cls := findClass_of_methodNamed B.named
  have hlocks := B.notSynchronized
  subst hsz
  have hD := hD0.self (sz := s.heap.size)
  generalize hAe : va_A [(qP, .inr (1, [.ref pC, .ref pT, .ref pV, .int (nI n)])), (pC, .inl (cJ, 1536, .inr (.inl fC))), (pT, .inl (cI, 512, .inl fT)), (pV, .inl (cI, 512, .inl fV)), (qS, .inr (0, [.ref aX, .ref aY, .ref aR, .ref aL, .ref aW])), (aX, .inl (cJ, 3, .inr (.inl vX))), (aY, .inl (cJ, 3, .inr (.inl vY))), (aR, .inl (cJ, 3, .inr (.inl vR))), (aL, .inl (cJ, 3, .inr (.inl vL))), (aW, .inl (cJ, 3, .inr (.inl vW)))] s.heap.size = A at hD ⊢
  have hA : ∀ q : Nat, s.heap.size ≤ q → A q := fun q h => by rw [← hAe]; exact Or.inr h
  have hS : va_S A s.heap s.heap [] := va_S.rf
  have hP : va_P (dC, dI) vwCl [(qP, .inr (1, [.ref pC, .ref pT, .ref pV, .int (nI n)])), (pC, .inl (cJ, 1536, .inr (.inl fC))), (pT, .inl (cI, 512, .inl fT)), (pV, .inl (cI, 512, .inl fV)), (qS, .inr (0, [.ref aX, .ref aY, .ref aR, .ref aL, .ref aW])), (aX, .inl (cJ, 3, .inr (.inl vX))), (aY, .inl (cJ, 3, .inr (.inl vY))), (aR, .inl (cJ, 3, .inr (.inl vR))), (aL, .inl (cJ, 3, .inr (.inl vL))), (aW, .inl (cJ, 3, .inr (.inl vW)))] s.heap := hP
  have hl := lv_entry ([.ref qP, .ref qS, .int (nI k)]) (n := 4) (Nat.le_of_ble_eq_true rfl)
  rw [lg_entry_eq]
  generalize (lg_sl ([.ref qP, .ref qS, .int (nI k)]) ++ List.replicate (4 - (lg_sl ([.ref qP, .ref qS, .int (nI k)])).length) Slot.unset).toArray = ls at hl ⊢
  have hl : lv_has ls 4 [(0, .ref qP), (1, .ref qS), (2, .int (nI k))] := hl
  refine lv_iconst (v := 0) hx hb dX1_unpackTo_0 (by decide) ?_
  refine lv_istore_n (lv' := [(3, .int 0), (0, .ref qP), (1, .ref qS), (2, .int (nI k))]) hx hb dX1_unpackTo_1 rfl hl (by decide) rfl (fun ls hl => ?_)
  refine lv_iload_n hx hb dX1_unpackTo_2 rfl (lv_at hl 0 rfl) ?_
  refine lv_iconst (v := 3) hx hb dX1_unpackTo_3 (by decide) ?_
  refine lv_icmp_ge (tgt := 28) hx hb dX1_unpackTo_4 (by decide) (fun c4_1 => ?_) (fun c4_1 => ?_)
  · exact absurd c4_1 (by decide)
  · refine lv_aload_n hx hb dX1_unpackTo_7 rfl (lv_at hl 2 rfl) ?_
    refine lv_iload_n hx hb dX1_unpackTo_8 rfl (lv_at hl 0 rfl) ?_
    refine lv_aload_n hx hb dX1_unpackTo_9 rfl (lv_at hl 1 rfl) ?_
    refine va_get (D := (dC, dI)) (ci := 1) (v := .ref pC) (C := RX1) (T := TX1) (N := 4) hx hb hts td_fX1 hown hK hP 0 rfl rfl 0 (by decide) (hts (.fieldLink RX1 9 "TileDesk$Pieces" "corners" "[J") (td_i2 (List.mem_of_getElem? (i := 7) rfl))) (fun _ h9 => h9) rfl dX1_unpackTo_10 ?_
    refine lv_iconst (v := 3) hx hb dX1_unpackTo_13 (by decide) ?_
    refine lv_iload_n hx hb dX1_unpackTo_14 rfl (lv_at hl 3 rfl) ?_
    refine lv_imul hx hb dX1_unpackTo_15 ?_
    refine td_ti (nI (3 * k)) (pk_mul 3 k) ?_
    refine lv_iload_n hx hb dX1_unpackTo_16 rfl (lv_at hl 0 rfl) ?_
    refine lv_iadd hx hb dX1_unpackTo_17 ?_
    refine td_ti (nI (3 * k + 0)) (nI_add (3 * k) 0) ?_
    refine td_lald hx hb hK hP 1 1 (3 * k + 0) rfl rfl rfl (by omega) (by decide) dX1_unpackTo_18 ?_
    refine td_cwv (wr := [(qP, .inr (1, [.ref pC, .ref pT, .ref pV, .int (nI n)])), (pC, .inl (cJ, 1536, .inr (.inl fC))), (pT, .inl (cI, 512, .inl fT)), (pV, .inl (cI, 512, .inl fV))]) (va_runV (As := [.int 0, .long (fC (3 * k + 0))]) (rest := []) ⟨hx, hb, hml, hown, hts⟩ (td_unpackCorner l dC dI cI cJ cZ s.heap.size qS aX aY aR aL aW vX vY vR vL vW 0 (fC (3 * k + 0)) (by omega)) (cwV 2 hts (td_gV (td_i7 (List.mem_of_getElem? (i := 22) rfl)) (td_i7 (List.mem_of_getElem? (i := 23) rfl)) (td_i8 (List.mem_of_getElem? (i := 0) rfl)) (td_i1 (List.mem_of_getElem? (i := 2) rfl)) (td_i8 (List.mem_of_getElem? (i := 1) rfl))) rfl rfl rfl (by decide +kernel) ⟨(Nat.le_of_ble_eq_true rfl), (Nat.le_of_ble_eq_true rfl)⟩) (td_pWV hK hZ hP hD [4, 5, 6, 7, 8, 9] (by decide) rfl (va_recv hK hP (ci := 0) (q0 := 4) rfl rfl)) rfl rfl hl.1 rfl (lv_room (Nat.le_of_ble_eq_true rfl)) dX1_unpackTo_19 ⟨Nat.zero_le _, Nat.zero_le _⟩) hP hD hS hA [4, 5, 6, 7, 8, 9] [0, 1, 2, 3] rfl rfl (by decide) (by decide) (fun u H locs w19_2 hP hD hS => ?_)
    try dsimp only at w19_2
    have hP : va_P (dC, dI) vwCl [(qP, .inr (1, [.ref pC, .ref pT, .ref pV, .int (nI n)])), (pC, .inl (cJ, 1536, .inr (.inl fC))), (pT, .inl (cI, 512, .inl fT)), (pV, .inl (cI, 512, .inl fV)), (qS, .inr (0, [.ref aX, .ref aY, .ref aR, .ref aL, .ref aW])), (aX, .inl (cJ, 3, .inr (.inl (vp_updL vX 0 (td_ux (fC (3 * k + 0))))))), (aY, .inl (cJ, 3, .inr (.inl (vp_updL vY 0 (td_uy (fC (3 * k + 0))))))), (aR, .inl (cJ, 3, .inr (.inl (vp_updL vR 0 (td_ur (fC (3 * k + 0))))))), (aL, .inl (cJ, 3, .inr (.inl (vp_updL vL 0 (td_ul (fC (3 * k + 0))))))), (aW, .inl (cJ, 3, .inr (.inl vW)))] H := hP
    have hD : va_D A [(qP, .inr (1, [.ref pC, .ref pT, .ref pV, .int (nI n)])), (pC, .inl (cJ, 1536, .inr (.inl fC))), (pT, .inl (cI, 512, .inl fT)), (pV, .inl (cI, 512, .inl fV)), (qS, .inr (0, [.ref aX, .ref aY, .ref aR, .ref aL, .ref aW])), (aX, .inl (cJ, 3, .inr (.inl (vp_updL vX 0 (td_ux (fC (3 * k + 0))))))), (aY, .inl (cJ, 3, .inr (.inl (vp_updL vY 0 (td_uy (fC (3 * k + 0))))))), (aR, .inl (cJ, 3, .inr (.inl (vp_updL vR 0 (td_ur (fC (3 * k + 0))))))), (aL, .inl (cJ, 3, .inr (.inl (vp_updL vL 0 (td_ul (fC (3 * k + 0))))))), (aW, .inl (cJ, 3, .inr (.inl vW)))] := hD
    refine lv_iinc (v := nI 1) (lv' := [(3, .int (nI 1)), (0, .ref qP), (1, .ref qS), (2, .int (nI k))]) hx hb dX1_unpackTo_22 hl (k := 0) rfl (nI_add 0 1) (by decide) rfl (fun ls hl => ?_)
    refine lv_goto (tgt := 2) hx hb dX1_unpackTo_25 (by decide) ?_
    refine lv_iload_n hx hb dX1_unpackTo_2 rfl (lv_at hl 0 rfl) ?_
    refine lv_iconst (v := 3) hx hb dX1_unpackTo_3 (by decide) ?_
    refine lv_icmp_ge (tgt := 28) hx hb dX1_unpackTo_4 (by decide) (fun c4_4 => ?_) (fun c4_4 => ?_)
    · exact absurd c4_4 (by decide)
    · refine lv_aload_n hx hb dX1_unpackTo_7 rfl (lv_at hl 2 rfl) ?_
      refine lv_iload_n hx hb dX1_unpackTo_8 rfl (lv_at hl 0 rfl) ?_
      refine lv_aload_n hx hb dX1_unpackTo_9 rfl (lv_at hl 1 rfl) ?_
      refine va_get (D := (dC, dI)) (ci := 1) (v := .ref pC) (C := RX1) (T := TX1) (N := 4) hx hb hts td_fX1 hown hK hP 0 rfl rfl 0 (by decide) (hts (.fieldLink RX1 9 "TileDesk$Pieces" "corners" "[J") (td_i2 (List.mem_of_getElem? (i := 7) rfl))) (fun _ h9 => h9) rfl dX1_unpackTo_10 ?_
      refine lv_iconst (v := 3) hx hb dX1_unpackTo_13 (by decide) ?_
      refine lv_iload_n hx hb dX1_unpackTo_14 rfl (lv_at hl 3 rfl) ?_
      refine lv_imul hx hb dX1_unpackTo_15 ?_
      refine td_ti (nI (3 * k)) (pk_mul 3 k) ?_
      refine lv_iload_n hx hb dX1_unpackTo_16 rfl (lv_at hl 0 rfl) ?_
      refine lv_iadd hx hb dX1_unpackTo_17 ?_
      refine td_ti (nI (3 * k + 1)) (nI_add (3 * k) 1) ?_
      refine td_lald hx hb hK hP 1 1 (3 * k + 1) rfl rfl rfl (by omega) (by decide) dX1_unpackTo_18 ?_
      refine td_cwv (wr := [(qP, .inr (1, [.ref pC, .ref pT, .ref pV, .int (nI n)])), (pC, .inl (cJ, 1536, .inr (.inl fC))), (pT, .inl (cI, 512, .inl fT)), (pV, .inl (cI, 512, .inl fV))]) (va_runV (As := [.int (nI 1), .long (fC (3 * k + 1))]) (rest := []) ⟨hx, hb, hml, hown, hts⟩ (td_unpackCorner l dC dI cI cJ cZ H.size qS aX aY aR aL aW (vp_updL vX 0 (td_ux (fC (3 * k + 0)))) (vp_updL vY 0 (td_uy (fC (3 * k + 0)))) (vp_updL vR 0 (td_ur (fC (3 * k + 0)))) (vp_updL vL 0 (td_ul (fC (3 * k + 0)))) vW 1 (fC (3 * k + 1)) (by omega)) (cwV 2 hts (td_gV (td_i7 (List.mem_of_getElem? (i := 22) rfl)) (td_i7 (List.mem_of_getElem? (i := 23) rfl)) (td_i8 (List.mem_of_getElem? (i := 0) rfl)) (td_i1 (List.mem_of_getElem? (i := 2) rfl)) (td_i8 (List.mem_of_getElem? (i := 1) rfl))) rfl rfl rfl (by decide +kernel) ⟨(Nat.le_of_ble_eq_true rfl), (Nat.le_of_ble_eq_true rfl)⟩) (td_pWV hK hZ hP hD [4, 5, 6, 7, 8, 9] (by decide) rfl (va_recv hK hP (ci := 0) (q0 := 4) rfl rfl)) rfl rfl hl.1 rfl (lv_room (Nat.le_of_ble_eq_true rfl)) dX1_unpackTo_19 ⟨Nat.zero_le _, Nat.zero_le _⟩) hP hD hS hA [4, 5, 6, 7, 8, 9] [0, 1, 2, 3] rfl rfl (by decide) (by decide) (fun u H locs w19_5 hP hD hS => ?_)
      try dsimp only at w19_5
      have hP : va_P (dC, dI) vwCl [(qP, .inr (1, [.ref pC, .ref pT, .ref pV, .int (nI n)])), (pC, .inl (cJ, 1536, .inr (.inl fC))), (pT, .inl (cI, 512, .inl fT)), (pV, .inl (cI, 512, .inl fV)), (qS, .inr (0, [.ref aX, .ref aY, .ref aR, .ref aL, .ref aW])), (aX, .inl (cJ, 3, .inr (.inl (vp_updL (vp_updL vX 0 (td_ux (fC (3 * k + 0)))) 1 (td_ux (fC (3 * k + 1))))))), (aY, .inl (cJ, 3, .inr (.inl (vp_updL (vp_updL vY 0 (td_uy (fC (3 * k + 0)))) 1 (td_uy (fC (3 * k + 1))))))), (aR, .inl (cJ, 3, .inr (.inl (vp_updL (vp_updL vR 0 (td_ur (fC (3 * k + 0)))) 1 (td_ur (fC (3 * k + 1))))))), (aL, .inl (cJ, 3, .inr (.inl (vp_updL (vp_updL vL 0 (td_ul (fC (3 * k + 0)))) 1 (td_ul (fC (3 * k + 1))))))), (aW, .inl (cJ, 3, .inr (.inl vW)))] H := hP
      have hD : va_D A [(qP, .inr (1, [.ref pC, .ref pT, .ref pV, .int (nI n)])), (pC, .inl (cJ, 1536, .inr (.inl fC))), (pT, .inl (cI, 512, .inl fT)), (pV, .inl (cI, 512, .inl fV)), (qS, .inr (0, [.ref aX, .ref aY, .ref aR, .ref aL, .ref aW])), (aX, .inl (cJ, 3, .inr (.inl (vp_updL (vp_updL vX 0 (td_ux (fC (3 * k + 0)))) 1 (td_ux (fC (3 * k + 1))))))), (aY, .inl (cJ, 3, .inr (.inl (vp_updL (vp_updL vY 0 (td_uy (fC (3 * k + 0)))) 1 (td_uy (fC (3 * k + 1))))))), (aR, .inl (cJ, 3, .inr (.inl (vp_updL (vp_updL vR 0 (td_ur (fC (3 * k + 0)))) 1 (td_ur (fC (3 * k + 1))))))), (aL, .inl (cJ, 3, .inr (.inl (vp_updL (vp_updL vL 0 (td_ul (fC (3 * k + 0)))) 1 (td_ul (fC (3 * k + 1))))))), (aW, .inl (cJ, 3, .inr (.inl vW)))] := hD
      refine lv_iinc (v := nI 2) (lv' := [(3, .int (nI 2)), (0, .ref qP), (1, .ref qS), (2, .int (nI k))]) hx hb dX1_unpackTo_22 hl (k := 0) rfl (nI_add 1 1) (by decide) rfl (fun ls hl => ?_)
      refine lv_goto (tgt := 2) hx hb dX1_unpackTo_25 (by decide) ?_
      refine lv_iload_n hx hb dX1_unpackTo_2 rfl (lv_at hl 0 rfl) ?_
      refine lv_iconst (v := 3) hx hb dX1_unpackTo_3 (by decide) ?_
      refine lv_icmp_ge (tgt := 28) hx hb dX1_unpackTo_4 (by decide) (fun c4_7 => ?_) (fun c4_7 => ?_)
      · exact absurd c4_7 (by decide)
      · refine lv_aload_n hx hb dX1_unpackTo_7 rfl (lv_at hl 2 rfl) ?_
        refine lv_iload_n hx hb dX1_unpackTo_8 rfl (lv_at hl 0 rfl) ?_
        refine lv_aload_n hx hb dX1_unpackTo_9 rfl (lv_at hl 1 rfl) ?_
        refine va_get (D := (dC, dI)) (ci := 1) (v := .ref pC) (C := RX1) (T := TX1) (N := 4) hx hb hts td_fX1 hown hK hP 0 rfl rfl 0 (by decide) (hts (.fieldLink RX1 9 "TileDesk$Pieces" "corners" "[J") (td_i2 (List.mem_of_getElem? (i := 7) rfl))) (fun _ h9 => h9) rfl dX1_unpackTo_10 ?_
        refine lv_iconst (v := 3) hx hb dX1_unpackTo_13 (by decide) ?_
        refine lv_iload_n hx hb dX1_unpackTo_14 rfl (lv_at hl 3 rfl) ?_
        refine lv_imul hx hb dX1_unpackTo_15 ?_
        refine td_ti (nI (3 * k)) (pk_mul 3 k) ?_
        refine lv_iload_n hx hb dX1_unpackTo_16 rfl (lv_at hl 0 rfl) ?_
        refine lv_iadd hx hb dX1_unpackTo_17 ?_
        refine td_ti (nI (3 * k + 2)) (nI_add (3 * k) 2) ?_
        refine td_lald hx hb hK hP 1 1 (3 * k + 2) rfl rfl rfl (by omega) (by decide) dX1_unpackTo_18 ?_
        refine td_cwv (wr := [(qP, .inr (1, [.ref pC, .ref pT, .ref pV, .int (nI n)])), (pC, .inl (cJ, 1536, .inr (.inl fC))), (pT, .inl (cI, 512, .inl fT)), (pV, .inl (cI, 512, .inl fV))]) (va_runV (As := [.int (nI 2), .long (fC (3 * k + 2))]) (rest := []) ⟨hx, hb, hml, hown, hts⟩ (td_unpackCorner l dC dI cI cJ cZ H.size qS aX aY aR aL aW (vp_updL (vp_updL vX 0 (td_ux (fC (3 * k + 0)))) 1 (td_ux (fC (3 * k + 1)))) (vp_updL (vp_updL vY 0 (td_uy (fC (3 * k + 0)))) 1 (td_uy (fC (3 * k + 1)))) (vp_updL (vp_updL vR 0 (td_ur (fC (3 * k + 0)))) 1 (td_ur (fC (3 * k + 1)))) (vp_updL (vp_updL vL 0 (td_ul (fC (3 * k + 0)))) 1 (td_ul (fC (3 * k + 1)))) vW 2 (fC (3 * k + 2)) (by omega)) (cwV 2 hts (td_gV (td_i7 (List.mem_of_getElem? (i := 22) rfl)) (td_i7 (List.mem_of_getElem? (i := 23) rfl)) (td_i8 (List.mem_of_getElem? (i := 0) rfl)) (td_i1 (List.mem_of_getElem? (i := 2) rfl)) (td_i8 (List.mem_of_getElem? (i := 1) rfl))) rfl rfl rfl (by decide +kernel) ⟨(Nat.le_of_ble_eq_true rfl), (Nat.le_of_ble_eq_true rfl)⟩) (td_pWV hK hZ hP hD [4, 5, 6, 7, 8, 9] (by decide) rfl (va_recv hK hP (ci := 0) (q0 := 4) rfl rfl)) rfl rfl hl.1 rfl (lv_room (Nat.le_of_ble_eq_true rfl)) dX1_unpackTo_19 ⟨Nat.zero_le _, Nat.zero_le _⟩) hP hD hS hA [4, 5, 6, 7, 8, 9] [0, 1, 2, 3] rfl rfl (by decide) (by decide) (fun u H locs w19_8 hP hD hS => ?_)
        try dsimp only at w19_8
        have hP : va_P (dC, dI) vwCl [(qP, .inr (1, [.ref pC, .ref pT, .ref pV, .int (nI n)])), (pC, .inl (cJ, 1536, .inr (.inl fC))), (pT, .inl (cI, 512, .inl fT)), (pV, .inl (cI, 512, .inl fV)), (qS, .inr (0, [.ref aX, .ref aY, .ref aR, .ref aL, .ref aW])), (aX, .inl (cJ, 3, .inr (.inl (vp_updL (vp_updL (vp_updL vX 0 (td_ux (fC (3 * k + 0)))) 1 (td_ux (fC (3 * k + 1)))) 2 (td_ux (fC (3 * k + 2))))))), (aY, .inl (cJ, 3, .inr (.inl (vp_updL (vp_updL (vp_updL vY 0 (td_uy (fC (3 * k + 0)))) 1 (td_uy (fC (3 * k + 1)))) 2 (td_uy (fC (3 * k + 2))))))), (aR, .inl (cJ, 3, .inr (.inl (vp_updL (vp_updL (vp_updL vR 0 (td_ur (fC (3 * k + 0)))) 1 (td_ur (fC (3 * k + 1)))) 2 (td_ur (fC (3 * k + 2))))))), (aL, .inl (cJ, 3, .inr (.inl (vp_updL (vp_updL (vp_updL vL 0 (td_ul (fC (3 * k + 0)))) 1 (td_ul (fC (3 * k + 1)))) 2 (td_ul (fC (3 * k + 2))))))), (aW, .inl (cJ, 3, .inr (.inl vW)))] H := hP
        have hD : va_D A [(qP, .inr (1, [.ref pC, .ref pT, .ref pV, .int (nI n)])), (pC, .inl (cJ, 1536, .inr (.inl fC))), (pT, .inl (cI, 512, .inl fT)), (pV, .inl (cI, 512, .inl fV)), (qS, .inr (0, [.ref aX, .ref aY, .ref aR, .ref aL, .ref aW])), (aX, .inl (cJ, 3, .inr (.inl (vp_updL (vp_updL (vp_updL vX 0 (td_ux (fC (3 * k + 0)))) 1 (td_ux (fC (3 * k + 1)))) 2 (td_ux (fC (3 * k + 2))))))), (aY, .inl (cJ, 3, .inr (.inl (vp_updL (vp_updL (vp_updL vY 0 (td_uy (fC (3 * k + 0)))) 1 (td_uy (fC (3 * k + 1)))) 2 (td_uy (fC (3 * k + 2))))))), (aR, .inl (cJ, 3, .inr (.inl (vp_updL (vp_updL (vp_updL vR 0 (td_ur (fC (3 * k + 0)))) 1 (td_ur (fC (3 * k + 1)))) 2 (td_ur (fC (3 * k + 2))))))), (aL, .inl (cJ, 3, .inr (.inl (vp_updL (vp_updL (vp_updL vL 0 (td_ul (fC (3 * k + 0)))) 1 (td_ul (fC (3 * k + 1)))) 2 (td_ul (fC (3 * k + 2))))))), (aW, .inl (cJ, 3, .inr (.inl vW)))] := hD
        refine lv_iinc (v := nI 3) (lv' := [(3, .int (nI 3)), (0, .ref qP), (1, .ref qS), (2, .int (nI k))]) hx hb dX1_unpackTo_22 hl (k := 0) rfl (nI_add 2 1) (by decide) rfl (fun ls hl => ?_)
        refine lv_goto (tgt := 2) hx hb dX1_unpackTo_25 (by decide) ?_
        refine lv_iload_n hx hb dX1_unpackTo_2 rfl (lv_at hl 0 rfl) ?_
        refine lv_iconst (v := 3) hx hb dX1_unpackTo_3 (by decide) ?_
        refine lv_icmp_ge (tgt := 28) hx hb dX1_unpackTo_4 (by decide) (fun c4_10 => ?_) (fun c4_10 => ?_)
        · have hP9 := hP.sub (ws' := [(qP, .inr (1, [.ref pC, .ref pT, .ref pV, .int (nI n)])), (pC, .inl (cJ, 1536, .inr (.inl fC))), (pT, .inl (cI, 512, .inl fT)), (pV, .inl (cI, 512, .inl fV)), (qS, .inr (0, [.ref aX, .ref aY, .ref aR, .ref aL, .ref aW])), (aX, .inl (cJ, 3, .inr (.inl (vp_updL (vp_updL (vp_updL vX 0 (td_ux (fC (3 * k + 0)))) 1 (td_ux (fC (3 * k + 1)))) 2 (td_ux (fC (3 * k + 2))))))), (aY, .inl (cJ, 3, .inr (.inl (vp_updL (vp_updL (vp_updL vY 0 (td_uy (fC (3 * k + 0)))) 1 (td_uy (fC (3 * k + 1)))) 2 (td_uy (fC (3 * k + 2))))))), (aR, .inl (cJ, 3, .inr (.inl (vp_updL (vp_updL (vp_updL vR 0 (td_ur (fC (3 * k + 0)))) 1 (td_ur (fC (3 * k + 1)))) 2 (td_ur (fC (3 * k + 2))))))), (aL, .inl (cJ, 3, .inr (.inl (vp_updL (vp_updL (vp_updL vL 0 (td_ul (fC (3 * k + 0)))) 1 (td_ul (fC (3 * k + 1)))) 2 (td_ul (fC (3 * k + 2))))))), (aW, .inl (cJ, 3, .inr (.inl vW)))]) [0, 1, 2, 3, 4, 5, 6, 7, 8, 9] rfl
          have hD9 := hD.sub (ws' := [(qP, .inr (1, [.ref pC, .ref pT, .ref pV, .int (nI n)])), (pC, .inl (cJ, 1536, .inr (.inl fC))), (pT, .inl (cI, 512, .inl fT)), (pV, .inl (cI, 512, .inl fV)), (qS, .inr (0, [.ref aX, .ref aY, .ref aR, .ref aL, .ref aW])), (aX, .inl (cJ, 3, .inr (.inl (vp_updL (vp_updL (vp_updL vX 0 (td_ux (fC (3 * k + 0)))) 1 (td_ux (fC (3 * k + 1)))) 2 (td_ux (fC (3 * k + 2))))))), (aY, .inl (cJ, 3, .inr (.inl (vp_updL (vp_updL (vp_updL vY 0 (td_uy (fC (3 * k + 0)))) 1 (td_uy (fC (3 * k + 1)))) 2 (td_uy (fC (3 * k + 2))))))), (aR, .inl (cJ, 3, .inr (.inl (vp_updL (vp_updL (vp_updL vR 0 (td_ur (fC (3 * k + 0)))) 1 (td_ur (fC (3 * k + 1)))) 2 (td_ur (fC (3 * k + 2))))))), (aL, .inl (cJ, 3, .inr (.inl (vp_updL (vp_updL (vp_updL vL 0 (td_ul (fC (3 * k + 0)))) 1 (td_ul (fC (3 * k + 1)))) 2 (td_ul (fC (3 * k + 2))))))), (aW, .inl (cJ, 3, .inr (.inl vW)))]) [0, 1, 2, 3, 4, 5, 6, 7, 8, 9] (by decide) rfl
          exact td_rwv () hx hb hr hlocks hK (trivial) hP9 hD9 hS dX1_unpackTo_28
        · exact absurd c4_10 (by decide)
