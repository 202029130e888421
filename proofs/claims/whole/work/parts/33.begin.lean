set_option maxHeartbeats 4000000 in
set_option maxRecDepth 100000 in
/-- begin -/
theorem tm_begin (l : Launch) (dC : Nat → ClassId) (dI : Nat → Nat → Nat) (cI cJ cZ : ClassId) (sz : Nat) (qM : Nat) (mP : Nat) (mC : Nat) (mN : Nat) (mD : Nat) (w : Nat) (h : Nat) (n : Nat) (mb : Int32) (mg : Int32) (tk : Int32) (g : Nat → Int32) (fc : Nat → Int32) (fn : Nat → Int32) (fD : Nat → Int32) (bgN : Nat) (hw1 : 8 ≤ w) (hw2 : w ≤ 48) (hh1 : 8 ≤ h) (hh2 : h ≤ 48) (hn : n ≤ 512) (hbg : mb = nI bgN) (hbb : bgN < 16777216) (hp : ∀ t, t < n → td_pc g (14 * t)) : Met l yX4_begin wsX4_begin ({ frames := 3, cells := 0, slots := 0, locals := 95 }) (td_WP (dC, dI) vwCl (td_T cI cJ cZ) td_nl [(qM, .inr (4, [.int 0, .int (nI w), .int (nI h), .int (nI n), .ref mP, .int mb, .int mg, .int tk, .ref mC, .ref mN, .ref mD])), (mP, .inl (cI, 7180, .inl g)), (mC, .inl (cI, 2304, .inl fc)), (mN, .inl (cI, 2304, .inl fn)), (mD, .inl (cZ, 36, .inl fD))] sz [.ref qM]) (va_Qi (S := (Nat → Int32) × (Nat → Int32) × (Nat → Int32)) (fun r u => r = nI ((w + 7) / 8 * ((h + 7) / 8)) ∧ (∀ z, z < 36 → u.2.2 z = 0) ∧ ∀ i j, i < w → j < h → u.1 (48 * j + i) = nI (td_px g bgN i j n).1 ∧ u.2.1 (48 * j + i) = nI (td_px g bgN i j n).2) (td_B (dC, dI) vwCl (td_T cI cJ cZ) (va_A [(qM, .inr (4, [.int 0, .int (nI w), .int (nI h), .int (nI n), .ref mP, .int mb, .int mg, .int tk, .ref mC, .ref mN, .ref mD])), (mP, .inl (cI, 7180, .inl g)), (mC, .inl (cI, 2304, .inl fc)), (mN, .inl (cI, 2304, .inl fn)), (mD, .inl (cZ, 36, .inl fD))] sz) (fun (u : (Nat → Int32) × (Nat → Int32) × (Nat → Int32)) => [(qM, .inr (4, [.int 0, .int (nI w), .int (nI h), .int (nI n), .ref mP, .int mb, .int 1, .int (nI n), .ref mC, .ref mN, .ref mD])), (mP, .inl (cI, 7180, .inl g)), (mC, .inl (cI, 2304, .inl u.1)), (mN, .inl (cI, 2304, .inl u.2.1)), (mD, .inl (cZ, 36, .inl u.2.2))])) (va_A [(qM, .inr (4, [.int 0, .int (nI w), .int (nI h), .int (nI n), .ref mP, .int mb, .int mg, .int tk, .ref mC, .ref mN, .ref mD])), (mP, .inl (cI, 7180, .inl g)), (mC, .inl (cI, 2304, .inl fc)), (mN, .inl (cI, 2304, .inl fn)), (mD, .inl (cZ, 36, .inl fD))] sz)) 0 0 (va_A [(qM, .inr (4, [.int 0, .int (nI w), .int (nI h), .int (nI n), .ref mP, .int mb, .int mg, .int tk, .ref mC, .ref mN, .ref mD])), (mP, .inl (cI, 7180, .inl g)), (mC, .inl (cI, 2304, .inl fc)), (mN, .inl (cI, 2304, .inl fn)), (mD, .inl (cZ, 36, .inl fD))] sz) := by
  refine Met.ofW (cc := cX4_begin) (maxL := 5) (ret := (some .int)) (by decide) rfl ?_
  intro p e s m args below meth c s₁ B hml hv
  obtain ⟨rfl, hsz, hP, hK, hZ, hD0⟩ := hv
  have hx := B.exec
  have hb := B.bytes
  have hr := B.returns
  have hts := atoms_spec (ws := wsX4_begin) B.pre
  have hown : s.vm.findClass RX4 = some m.cls := findClass_of_methodNamed B.named
  have hlocks := B.notSynchronized
  subst hsz
  have hD := hD0.self (sz := s.heap.size)
  generalize hAe : va_A [(qM, .inr (4, [.int 0, .int (nI w), .int (nI h), .int (nI n), .ref mP, .int mb, .int mg, .int tk, .ref mC, .ref mN, .ref mD])), (mP, .inl (cI, 7180, .inl g)), (mC, .inl (cI, 2304, .inl fc)), (mN, .inl (cI, 2304, .inl fn)), (mD, .inl (cZ, 36, .inl fD))] s.heap.size = A at hD ⊢
  have hA : ∀ q : Nat, s.heap.size ≤ q → A q := fun q h => by rw [← hAe]; exact Or.inr h
  have hS : va_S A s.heap s.heap [] := va_S.rf
  have hP : va_P (dC, dI) vwCl [(qM, .inr (4, [.int 0, .int (nI w), .int (nI h), .int (nI n), .ref mP, .int mb, .int mg, .int tk, .ref mC, .ref mN, .ref mD])), (mP, .inl (cI, 7180, .inl g)), (mC, .inl (cI, 2304, .inl fc)), (mN, .inl (cI, 2304, .inl fn)), (mD, .inl (cZ, 36, .inl fD))] s.heap := hP
  have hl := lv_entry ([.ref qM]) (n := 5) (Nat.le_of_ble_eq_true rfl)
  rw [lg_entry_eq]
  generalize (lg_sl ([.ref qM]) ++ List.replicate (5 - (lg_sl ([.ref qM])).length) Slot.unset).toArray = ls at hl ⊢
  have hl : lv_has ls 5 [(0, .ref qM)] := hl
  refine lv_aload_n hx hb dX4_begin_0 rfl (lv_at hl 0 rfl) ?_
  refine lv_iconst (v := 0) hx hb dX4_begin_1 (by decide) ?_
  refine va_put (D := (dC, dI)) (ci := 4) (v := .int 0) (ty := .int) (C := RX4) (T := TX4) (N := 11) hx hb hts td_fX4 tyX4 tyX4_ok nmX4 hown hK hP hD hS 0 rfl rfl 0 (by decide) (hts (.fieldLink RX4 30 "TileDeskModel" "thrown" "I") (td_i11 (List.mem_of_getElem? (i := 23) rfl))) (fun _ h9 => h9) rfl (by decide +kernel) rfl rfl (Nat.le_of_ble_eq_true rfl) dX4_begin_2 (fun H locs hP hD hS => ?_)
  have hP : va_P (dC, dI) vwCl [(qM, .inr (4, [.int 0, .int (nI w), .int (nI h), .int (nI n), .ref mP, .int mb, .int mg, .int tk, .ref mC, .ref mN, .ref mD])), (mP, .inl (cI, 7180, .inl g)), (mC, .inl (cI, 2304, .inl fc)), (mN, .inl (cI, 2304, .inl fn)), (mD, .inl (cZ, 36, .inl fD))] H := hP
  have hD : va_D A [(qM, .inr (4, [.int 0, .int (nI w), .int (nI h), .int (nI n), .ref mP, .int mb, .int mg, .int tk, .ref mC, .ref mN, .ref mD])), (mP, .inl (cI, 7180, .inl g)), (mC, .inl (cI, 2304, .inl fc)), (mN, .inl (cI, 2304, .inl fn)), (mD, .inl (cZ, 36, .inl fD))] := hD
  refine lv_aload_n hx hb dX4_begin_5 rfl (lv_at hl 0 rfl) ?_
  refine lv_iconst (v := 1) hx hb dX4_begin_6 (by decide) ?_
  refine va_put (D := (dC, dI)) (ci := 4) (v := .int 1) (ty := .boolean) (C := RX4) (T := TX4) (N := 11) hx hb hts td_fX4 tyX4 tyX4_ok nmX4 hown hK hP hD hS 0 rfl rfl 6 (by decide) (hts (.fieldLink RX4 76 "TileDeskModel" "begun" "Z") (td_i12 (List.mem_of_getElem? (i := 5) rfl))) (fun _ h9 => h9) rfl (by decide +kernel) rfl rfl (Nat.le_of_ble_eq_true rfl) dX4_begin_7 (fun H locs hP hD hS => ?_)
  have hP : va_P (dC, dI) vwCl [(qM, .inr (4, [.int 0, .int (nI w), .int (nI h), .int (nI n), .ref mP, .int mb, .int 1, .int tk, .ref mC, .ref mN, .ref mD])), (mP, .inl (cI, 7180, .inl g)), (mC, .inl (cI, 2304, .inl fc)), (mN, .inl (cI, 2304, .inl fn)), (mD, .inl (cZ, 36, .inl fD))] H := hP
  have hD : va_D A [(qM, .inr (4, [.int 0, .int (nI w), .int (nI h), .int (nI n), .ref mP, .int mb, .int 1, .int tk, .ref mC, .ref mN, .ref mD])), (mP, .inl (cI, 7180, .inl g)), (mC, .inl (cI, 2304, .inl fc)), (mN, .inl (cI, 2304, .inl fn)), (mD, .inl (cZ, 36, .inl fD))] := hD
  refine lv_aload_n hx hb dX4_begin_10 rfl (lv_at hl 0 rfl) ?_
  refine lv_aload_n hx hb dX4_begin_11 rfl (lv_at hl 0 rfl) ?_
  refine va_get (D := (dC, dI)) (ci := 4) (v := .int (nI n)) (C := RX4) (T := TX4) (N := 11) hx hb hts td_fX4 hown hK hP 0 rfl rfl 3 (by decide) (hts (.fieldLink RX4 40 "TileDeskModel" "many" "I") (td_i12 (List.mem_of_getElem? (i := 2) rfl))) (fun _ h9 => h9) rfl dX4_begin_12 ?_
  refine va_put (D := (dC, dI)) (ci := 4) (v := .int (nI n)) (ty := .int) (C := RX4) (T := TX4) (N := 11) hx hb hts td_fX4 tyX4 tyX4_ok nmX4 hown hK hP hD hS 0 rfl rfl 7 (by decide) (hts (.fieldLink RX4 80 "TileDeskModel" "took" "I") (td_i12 (List.mem_of_getElem? (i := 6) rfl))) (fun _ h9 => h9) rfl (by decide +kernel) rfl rfl (Nat.le_of_ble_eq_true rfl) dX4_begin_15 (fun H locs hP hD hS => ?_)
  have hP : va_P (dC, dI) vwCl [(qM, .inr (4, [.int 0, .int (nI w), .int (nI h), .int (nI n), .ref mP, .int mb, .int 1, .int (nI n), .ref mC, .ref mN, .ref mD])), (mP, .inl (cI, 7180, .inl g)), (mC, .inl (cI, 2304, .inl fc)), (mN, .inl (cI, 2304, .inl fn)), (mD, .inl (cZ, 36, .inl fD))] H := hP
  have hD : va_D A [(qM, .inr (4, [.int 0, .int (nI w), .int (nI h), .int (nI n), .ref mP, .int mb, .int 1, .int (nI n), .ref mC, .ref mN, .ref mD])), (mP, .inl (cI, 7180, .inl g)), (mC, .inl (cI, 2304, .inl fc)), (mN, .inl (cI, 2304, .inl fn)), (mD, .inl (cZ, 36, .inl fD))] := hD
  refine lv_iconst (v := 0) hx hb dX4_begin_18 (by decide) ?_
  refine lv_istore_n (lv' := [(1, .int 0), (0, .ref qM)]) hx hb dX4_begin_19 rfl hl (by decide) rfl (fun ls hl => ?_)
  have lp20 : ∀ (n20 : Nat) (t : Nat) (gD : Nat → Int32), (t ≤ 36) → (∀ z, z < t → gD z = 0) → 36 - t < n20 → ∀ (H : Heap) (locs : List Loc), va_P (dC, dI) vwCl [(qM, .inr (4, [.int 0, .int (nI w), .int (nI h), .int (nI n), .ref mP, .int mb, .int 1, .int (nI n), .ref mC, .ref mN, .ref mD])), (mP, .inl (cI, 7180, .inl g)), (mC, .inl (cI, 2304, .inl fc)), (mN, .inl (cI, 2304, .inl fn)), (mD, .inl (cZ, 36, .inl gD))] H → va_D A [(qM, .inr (4, [.int 0, .int (nI w), .int (nI h), .int (nI n), .ref mP, .int mb, .int 1, .int (nI n), .ref mC, .ref mN, .ref mD])), (mP, .inl (cI, 7180, .inl g)), (mC, .inl (cI, 2304, .inl fc)), (mN, .inl (cI, 2304, .inl fn)), (mD, .inl (cZ, 36, .inl gD))] → va_S A s.heap H locs → ∀ ls : Array Slot, lv_has ls 5 [(0, .ref qM), (1, .int (nI t))] → W p l e (headSpec wsX4_begin ({ frames := 3, cells := 0, slots := 0, locals := 95 })).room s m (([.ref qM] : List Value).toArray) below meth c H locs 0 0 (MQ below (va_Qi (S := (Nat → Int32) × (Nat → Int32) × (Nat → Int32)) (fun r u => r = nI ((w + 7) / 8 * ((h + 7) / 8)) ∧ (∀ z, z < 36 → u.2.2 z = 0) ∧ ∀ i j, i < w → j < h → u.1 (48 * j + i) = nI (td_px g bgN i j n).1 ∧ u.2.1 (48 * j + i) = nI (td_px g bgN i j n).2) (td_B (dC, dI) vwCl (td_T cI cJ cZ) A (fun (u : (Nat → Int32) × (Nat → Int32) × (Nat → Int32)) => [(qM, .inr (4, [.int 0, .int (nI w), .int (nI h), .int (nI n), .ref mP, .int mb, .int 1, .int (nI n), .ref mC, .ref mN, .ref mD])), (mP, .inl (cI, 7180, .inl g)), (mC, .inl (cI, 2304, .inl u.1)), (mN, .inl (cI, 2304, .inl u.2.1)), (mD, .inl (cZ, 36, .inl u.2.2))])) A) (([.ref qM] : List Value).toArray) s 0 0 A) (F0 m 20 ls []) := by
    intro n20
    induction n20 with
    | zero => intro t gD ht hz hm; exact absurd hm (Nat.not_lt_zero _)
    | succ n20 ih20 =>
      intro t gD ht hz hm20 H locs hP hD hS ls hl
      refine lv_iload_n hx hb dX4_begin_20 rfl (lv_at hl 1 rfl) ?_
      refine lv_bipush (v := 36) hx hb dX4_begin_21 (by decide) ?_
      refine lv_icmp_ge (tgt := 39) hx hb dX4_begin_23 (by decide) (fun c23 => ?_) (fun c23 => ?_)
      · have ht36 : t = 36 := by have := (nI_leI (a := 36) (b := t) (by decide) (by omega)).mp c23; omega
        subst ht36
        refine lv_iconst (v := 0) hx hb dX4_begin_39 (by decide) ?_
        refine lv_istore_n (lv' := [(1, .int 0), (0, .ref qM)]) hx hb dX4_begin_40 rfl hl (by decide) rfl (fun ls hl => ?_)
        have lp41 : ∀ (n41 : Nat) (j : Nat) (gc : Nat → Int32) (gn : Nat → Int32), (j ≤ h) → (td_mI g bgN w h n j 0 gc gn) → h - j < n41 → ∀ (H : Heap) (locs : List Loc), va_P (dC, dI) vwCl [(qM, .inr (4, [.int 0, .int (nI w), .int (nI h), .int (nI n), .ref mP, .int mb, .int 1, .int (nI n), .ref mC, .ref mN, .ref mD])), (mP, .inl (cI, 7180, .inl g)), (mC, .inl (cI, 2304, .inl gc)), (mN, .inl (cI, 2304, .inl gn)), (mD, .inl (cZ, 36, .inl gD))] H → va_D A [(qM, .inr (4, [.int 0, .int (nI w), .int (nI h), .int (nI n), .ref mP, .int mb, .int 1, .int (nI n), .ref mC, .ref mN, .ref mD])), (mP, .inl (cI, 7180, .inl g)), (mC, .inl (cI, 2304, .inl gc)), (mN, .inl (cI, 2304, .inl gn)), (mD, .inl (cZ, 36, .inl gD))] → va_S A s.heap H locs → ∀ ls : Array Slot, lv_has ls 5 [(0, .ref qM), (1, .int (nI j))] → W p l e (headSpec wsX4_begin ({ frames := 3, cells := 0, slots := 0, locals := 95 })).room s m (([.ref qM] : List Value).toArray) below meth c H locs 0 0 (MQ below (va_Qi (S := (Nat → Int32) × (Nat → Int32) × (Nat → Int32)) (fun r u => r = nI ((w + 7) / 8 * ((h + 7) / 8)) ∧ (∀ z, z < 36 → u.2.2 z = 0) ∧ ∀ i j, i < w → j < h → u.1 (48 * j + i) = nI (td_px g bgN i j n).1 ∧ u.2.1 (48 * j + i) = nI (td_px g bgN i j n).2) (td_B (dC, dI) vwCl (td_T cI cJ cZ) A (fun (u : (Nat → Int32) × (Nat → Int32) × (Nat → Int32)) => [(qM, .inr (4, [.int 0, .int (nI w), .int (nI h), .int (nI n), .ref mP, .int mb, .int 1, .int (nI n), .ref mC, .ref mN, .ref mD])), (mP, .inl (cI, 7180, .inl g)), (mC, .inl (cI, 2304, .inl u.1)), (mN, .inl (cI, 2304, .inl u.2.1)), (mD, .inl (cZ, 36, .inl u.2.2))])) A) (([.ref qM] : List Value).toArray) s 0 0 A) (F0 m 41 ls []) := by
          intro n41
          induction n41 with
          | zero => intro j gc gn hj hv hm; exact absurd hm (Nat.not_lt_zero _)
          | succ n41 ih41 =>
            intro j gc gn hj hv hm41 H locs hP hD hS ls hl
            refine lv_iload_n hx hb dX4_begin_41 rfl (lv_at hl 1 rfl) ?_
            refine lv_aload_n hx hb dX4_begin_42 rfl (lv_at hl 0 rfl) ?_
            refine va_get (D := (dC, dI)) (ci := 4) (v := .int (nI h)) (C := RX4) (T := TX4) (N := 11) hx hb hts td_fX4 hown hK hP 0 rfl rfl 2 (by decide) (hts (.fieldLink RX4 27 "TileDeskModel" "height" "I") (td_i12 (List.mem_of_getElem? (i := 1) rfl))) (fun _ h9 => h9) rfl dX4_begin_43 ?_
            refine lv_icmp_ge (tgt := 125) hx hb dX4_begin_46 (by decide) (fun c46 => ?_) (fun c46 => ?_)
            · have hjh : j = h := by have := (nI_leI (a := h) (b := j) (by omega) (by omega)).mp c46; omega
              refine lv_aload_n hx hb dX4_begin_125 rfl (lv_at hl 0 rfl) ?_
              refine td_csi (va_runV (As := []) (rest := []) ⟨hx, hb, hml, hown, hts⟩ (tm_tiles l dC dI cI cJ cZ qM mP mC mN mD w h n mb 1 (nI n) hw2 hh2) (cwV 0 hts (td_gV (td_i14 (List.mem_of_getElem? (i := 9) rfl)) (td_i14 (List.mem_of_getElem? (i := 10) rfl)) (td_i15 (List.mem_of_getElem? (i := 20) rfl)) (td_i1 (List.mem_of_getElem? (i := 6) rfl)) (td_i14 (List.mem_of_getElem? (i := 11) rfl))) rfl rfl rfl (by decide +kernel) ⟨(Nat.le_of_ble_eq_true rfl), (Nat.le_of_ble_eq_true rfl)⟩) (td_pRV hK hZ hP [0] rfl (va_recv hK hP (ci := 4) (q0 := 0) rfl rfl)) rfl rfl hl.1 rfl (lv_room (Nat.le_of_ble_eq_true rfl)) dX4_begin_126 ⟨Nat.zero_le _, Nat.zero_le _⟩) ?_
              have hP9 := hP.sub (ws' := [(qM, .inr (4, [.int 0, .int (nI w), .int (nI h), .int (nI n), .ref mP, .int mb, .int 1, .int (nI n), .ref mC, .ref mN, .ref mD])), (mP, .inl (cI, 7180, .inl g)), (mC, .inl (cI, 2304, .inl gc)), (mN, .inl (cI, 2304, .inl gn)), (mD, .inl (cZ, 36, .inl gD))]) [0, 1, 2, 3, 4] rfl
              have hD9 := hD.sub (ws' := [(qM, .inr (4, [.int 0, .int (nI w), .int (nI h), .int (nI n), .ref mP, .int mb, .int 1, .int (nI n), .ref mC, .ref mN, .ref mD])), (mP, .inl (cI, 7180, .inl g)), (mC, .inl (cI, 2304, .inl gc)), (mN, .inl (cI, 2304, .inl gn)), (mD, .inl (cZ, 36, .inl gD))]) [0, 1, 2, 3, 4] (by decide) rfl
              exact td_rwi (gc, gn, gD) hx hb hr rfl hlocks hK (⟨rfl, hz, fun i j hi hj => td_mI_end (by have z := hv; rw [hjh] at z; exact z) hi hj⟩) hP9 hD9 hS dX4_begin_129
            · have hjl : j < h := by rcases Nat.lt_or_ge j h with z | z; exact z; exact absurd (nI_le z (by omega)) c46
              refine lv_iconst (v := 0) hx hb dX4_begin_49 (by decide) ?_
              refine lv_istore_n (lv' := [(2, .int 0), (0, .ref qM), (1, .int (nI j))]) hx hb dX4_begin_50 rfl hl (by decide) rfl (fun ls hl => ?_)
              have lp51 : ∀ (n51 : Nat) (i : Nat) (gc : Nat → Int32) (gn : Nat → Int32), (i ≤ w) → (td_mI g bgN w h n j i gc gn) → w - i < n51 → ∀ (H : Heap) (locs : List Loc), va_P (dC, dI) vwCl [(qM, .inr (4, [.int 0, .int (nI w), .int (nI h), .int (nI n), .ref mP, .int mb, .int 1, .int (nI n), .ref mC, .ref mN, .ref mD])), (mP, .inl (cI, 7180, .inl g)), (mC, .inl (cI, 2304, .inl gc)), (mN, .inl (cI, 2304, .inl gn)), (mD, .inl (cZ, 36, .inl gD))] H → va_D A [(qM, .inr (4, [.int 0, .int (nI w), .int (nI h), .int (nI n), .ref mP, .int mb, .int 1, .int (nI n), .ref mC, .ref mN, .ref mD])), (mP, .inl (cI, 7180, .inl g)), (mC, .inl (cI, 2304, .inl gc)), (mN, .inl (cI, 2304, .inl gn)), (mD, .inl (cZ, 36, .inl gD))] → va_S A s.heap H locs → ∀ ls : Array Slot, lv_has ls 5 [(0, .ref qM), (1, .int (nI j)), (2, .int (nI i))] → W p l e (headSpec wsX4_begin ({ frames := 3, cells := 0, slots := 0, locals := 95 })).room s m (([.ref qM] : List Value).toArray) below meth c H locs 0 0 (MQ below (va_Qi (S := (Nat → Int32) × (Nat → Int32) × (Nat → Int32)) (fun r u => r = nI ((w + 7) / 8 * ((h + 7) / 8)) ∧ (∀ z, z < 36 → u.2.2 z = 0) ∧ ∀ i j, i < w → j < h → u.1 (48 * j + i) = nI (td_px g bgN i j n).1 ∧ u.2.1 (48 * j + i) = nI (td_px g bgN i j n).2) (td_B (dC, dI) vwCl (td_T cI cJ cZ) A (fun (u : (Nat → Int32) × (Nat → Int32) × (Nat → Int32)) => [(qM, .inr (4, [.int 0, .int (nI w), .int (nI h), .int (nI n), .ref mP, .int mb, .int 1, .int (nI n), .ref mC, .ref mN, .ref mD])), (mP, .inl (cI, 7180, .inl g)), (mC, .inl (cI, 2304, .inl u.1)), (mN, .inl (cI, 2304, .inl u.2.1)), (mD, .inl (cZ, 36, .inl u.2.2))])) A) (([.ref qM] : List Value).toArray) s 0 0 A) (F0 m 51 ls []) := by
                intro n51
                induction n51 with
                | zero => intro i gc gn hi hv hm; exact absurd hm (Nat.not_lt_zero _)
                | succ n51 ih51 =>
                  intro i gc gn hi hv hm51 H locs hP hD hS ls hl
                  refine lv_iload_n hx hb dX4_begin_51 rfl (lv_at hl 2 rfl) ?_
                  refine lv_aload_n hx hb dX4_begin_52 rfl (lv_at hl 0 rfl) ?_
                  refine va_get (D := (dC, dI)) (ci := 4) (v := .int (nI w)) (C := RX4) (T := TX4) (N := 11) hx hb hts td_fX4 hown hK hP 0 rfl rfl 1 (by decide) (hts (.fieldLink RX4 23 "TileDeskModel" "width" "I") (td_i12 (List.mem_of_getElem? (i := 0) rfl))) (fun _ h9 => h9) rfl dX4_begin_53 ?_
                  refine lv_icmp_ge (tgt := 119) hx hb dX4_begin_56 (by decide) (fun c56 => ?_) (fun c56 => ?_)
                  · have hiw : i = w := by have := (nI_leI (a := w) (b := i) (by omega) (by omega)).mp c56; omega
                    refine lv_iinc (v := nI (j + 1)) (lv' := [(1, .int (nI (j + 1))), (0, .ref qM), (2, .int (nI i))]) hx hb dX4_begin_119 hl (k := 1) rfl (nI_add j 1) (by decide) rfl (fun ls hl => ?_)
                    refine lv_goto (tgt := 41) hx hb dX4_begin_122 (by decide) ?_
                    exact ih41 (j + 1) gc gn (by omega) (td_mI_row (by have z := hv; rw [hiw] at z; exact z)) (by omega) _ _ (hP.sub [0, 1, 2, 3, 4] rfl) (hD.sub [0, 1, 2, 3, 4] (by decide) rfl) hS ls (lv_sub hl [1, 0] rfl)
                  · have hil : i < w := by rcases Nat.lt_or_ge i w with z | z; exact z; exact absurd (nI_le z (by omega)) c56
                    refine lv_bipush (v := 48) hx hb dX4_begin_59 (by decide) ?_
                    refine lv_iload_n hx hb dX4_begin_61 rfl (lv_at hl 1 rfl) ?_
                    refine lv_imul hx hb dX4_begin_62 ?_
                    refine td_ti (nI (48 * j)) (pk_mul 48 j) ?_
                    refine lv_iload_n hx hb dX4_begin_63 rfl (lv_at hl 2 rfl) ?_
                    refine lv_iadd hx hb dX4_begin_64 ?_
                    refine td_ti (nI (48 * j + i)) (nI_add (48 * j) i) ?_
                    refine lv_istore_n (lv' := [(3, .int (nI (48 * j + i))), (0, .ref qM), (1, .int (nI j)), (2, .int (nI i))]) hx hb dX4_begin_65 rfl hl (by decide) rfl (fun ls hl => ?_)
                    refine lv_aload_n hx hb dX4_begin_66 rfl (lv_at hl 1 rfl) ?_
                    refine va_get (D := (dC, dI)) (ci := 4) (v := .ref mC) (C := RX4) (T := TX4) (N := 11) hx hb hts td_fX4 hown hK hP 0 rfl rfl 8 (by decide) (hts (.fieldLink RX4 13 "TileDeskModel" "colours" "[I") (td_i12 (List.mem_of_getElem? (i := 7) rfl))) (fun _ h9 => h9) rfl dX4_begin_67 ?_
                    refine lv_iload_n hx hb dX4_begin_70 rfl (lv_at hl 0 rfl) ?_
                    refine lv_aload_n hx hb dX4_begin_71 rfl (lv_at hl 1 rfl) ?_
                    refine va_get (D := (dC, dI)) (ci := 4) (v := .int mb) (C := RX4) (T := TX4) (N := 11) hx hb hts td_fX4 hown hK hP 0 rfl rfl 5 (by decide) (hts (.fieldLink RX4 51 "TileDeskModel" "background" "I") (td_i12 (List.mem_of_getElem? (i := 4) rfl))) (fun _ h9 => h9) rfl dX4_begin_72 ?_
                    refine td_iast hx hb hK hP hD hS 2 0 (48 * j + i) rfl rfl rfl (by omega) (by decide) dX4_begin_75 (fun H locs hP hD hS => ?_)
                    have hP : va_P (dC, dI) vwCl [(qM, .inr (4, [.int 0, .int (nI w), .int (nI h), .int (nI n), .ref mP, .int mb, .int 1, .int (nI n), .ref mC, .ref mN, .ref mD])), (mP, .inl (cI, 7180, .inl g)), (mC, .inl (cI, 2304, .inl (upd gc (48 * j + i) mb))), (mN, .inl (cI, 2304, .inl gn)), (mD, .inl (cZ, 36, .inl gD))] H := hP
                    have hD : va_D A [(qM, .inr (4, [.int 0, .int (nI w), .int (nI h), .int (nI n), .ref mP, .int mb, .int 1, .int (nI n), .ref mC, .ref mN, .ref mD])), (mP, .inl (cI, 7180, .inl g)), (mC, .inl (cI, 2304, .inl (upd gc (48 * j + i) mb))), (mN, .inl (cI, 2304, .inl gn)), (mD, .inl (cZ, 36, .inl gD))] := hD
                    refine lv_aload_n hx hb dX4_begin_76 rfl (lv_at hl 1 rfl) ?_
                    refine va_get (D := (dC, dI)) (ci := 4) (v := .ref mN) (C := RX4) (T := TX4) (N := 11) hx hb hts td_fX4 hown hK hP 0 rfl rfl 9 (by decide) (hts (.fieldLink RX4 16 "TileDeskModel" "nears" "[I") (td_i12 (List.mem_of_getElem? (i := 8) rfl))) (fun _ h9 => h9) rfl dX4_begin_77 ?_
                    refine lv_iload_n hx hb dX4_begin_80 rfl (lv_at hl 0 rfl) ?_
                    refine lv_iconst (v := 0) hx hb dX4_begin_81 (by decide) ?_
                    refine td_iast hx hb hK hP hD hS 3 0 (48 * j + i) rfl rfl rfl (by omega) (by decide) dX4_begin_82 (fun H locs hP hD hS => ?_)
                    have hP : va_P (dC, dI) vwCl [(qM, .inr (4, [.int 0, .int (nI w), .int (nI h), .int (nI n), .ref mP, .int mb, .int 1, .int (nI n), .ref mC, .ref mN, .ref mD])), (mP, .inl (cI, 7180, .inl g)), (mC, .inl (cI, 2304, .inl (upd gc (48 * j + i) mb))), (mN, .inl (cI, 2304, .inl (upd gn (48 * j + i) 0))), (mD, .inl (cZ, 36, .inl gD))] H := hP
                    have hD : va_D A [(qM, .inr (4, [.int 0, .int (nI w), .int (nI h), .int (nI n), .ref mP, .int mb, .int 1, .int (nI n), .ref mC, .ref mN, .ref mD])), (mP, .inl (cI, 7180, .inl g)), (mC, .inl (cI, 2304, .inl (upd gc (48 * j + i) mb))), (mN, .inl (cI, 2304, .inl (upd gn (48 * j + i) 0))), (mD, .inl (cZ, 36, .inl gD))] := hD
                    refine lv_iconst (v := 0) hx hb dX4_begin_83 (by decide) ?_
                    refine lv_istore (lv' := [(4, .int 0), (3, .int (nI (48 * j + i))), (0, .ref qM), (1, .int (nI j)), (2, .int (nI i))]) hx hb dX4_begin_84 hl (by decide) rfl (fun ls hl => ?_)
                    have lp86 : ∀ (n86 : Nat) (k : Nat) (pc : Nat → Int32) (pn : Nat → Int32), (k ≤ n) → (∀ z, z ≠ 48 * j + i → pc z = gc z ∧ pn z = gn z) → (pc (48 * j + i) = nI (td_px g bgN i j k).1 ∧ pn (48 * j + i) = nI (td_px g bgN i j k).2) → n - k < n86 → ∀ (H : Heap) (locs : List Loc), va_P (dC, dI) vwCl [(qM, .inr (4, [.int 0, .int (nI w), .int (nI h), .int (nI n), .ref mP, .int mb, .int 1, .int (nI n), .ref mC, .ref mN, .ref mD])), (mP, .inl (cI, 7180, .inl g)), (mC, .inl (cI, 2304, .inl pc)), (mN, .inl (cI, 2304, .inl pn)), (mD, .inl (cZ, 36, .inl gD))] H → va_D A [(qM, .inr (4, [.int 0, .int (nI w), .int (nI h), .int (nI n), .ref mP, .int mb, .int 1, .int (nI n), .ref mC, .ref mN, .ref mD])), (mP, .inl (cI, 7180, .inl g)), (mC, .inl (cI, 2304, .inl pc)), (mN, .inl (cI, 2304, .inl pn)), (mD, .inl (cZ, 36, .inl gD))] → va_S A s.heap H locs → ∀ ls : Array Slot, lv_has ls 5 [(0, .ref qM), (1, .int (nI j)), (2, .int (nI i)), (3, .int (nI (48 * j + i))), (4, .int (nI k))] → W p l e (headSpec wsX4_begin ({ frames := 3, cells := 0, slots := 0, locals := 95 })).room s m (([.ref qM] : List Value).toArray) below meth c H locs 0 0 (MQ below (va_Qi (S := (Nat → Int32) × (Nat → Int32) × (Nat → Int32)) (fun r u => r = nI ((w + 7) / 8 * ((h + 7) / 8)) ∧ (∀ z, z < 36 → u.2.2 z = 0) ∧ ∀ i j, i < w → j < h → u.1 (48 * j + i) = nI (td_px g bgN i j n).1 ∧ u.2.1 (48 * j + i) = nI (td_px g bgN i j n).2) (td_B (dC, dI) vwCl (td_T cI cJ cZ) A (fun (u : (Nat → Int32) × (Nat → Int32) × (Nat → Int32)) => [(qM, .inr (4, [.int 0, .int (nI w), .int (nI h), .int (nI n), .ref mP, .int mb, .int 1, .int (nI n), .ref mC, .ref mN, .ref mD])), (mP, .inl (cI, 7180, .inl g)), (mC, .inl (cI, 2304, .inl u.1)), (mN, .inl (cI, 2304, .inl u.2.1)), (mD, .inl (cZ, 36, .inl u.2.2))])) A) (([.ref qM] : List Value).toArray) s 0 0 A) (F0 m 86 ls []) := by
                      intro n86
                      induction n86 with
                      | zero => intro k pc pn hk hoth hpx hm; exact absurd hm (Nat.not_lt_zero _)
                      | succ n86 ih86 =>
                        intro k pc pn hk hoth hpx hm86 H locs hP hD hS ls hl
                        refine lv_iload hx hb dX4_begin_86 (lv_at hl 4 rfl) ?_
                        refine lv_aload_n hx hb dX4_begin_88 rfl (lv_at hl 0 rfl) ?_
                        refine va_get (D := (dC, dI)) (ci := 4) (v := .int (nI n)) (C := RX4) (T := TX4) (N := 11) hx hb hts td_fX4 hown hK hP 0 rfl rfl 3 (by decide) (hts (.fieldLink RX4 40 "TileDeskModel" "many" "I") (td_i12 (List.mem_of_getElem? (i := 2) rfl))) (fun _ h9 => h9) rfl dX4_begin_89 ?_
                        refine lv_icmp_ge (tgt := 113) hx hb dX4_begin_92 (by decide) (fun c92 => ?_) (fun c92 => ?_)
                        · have hkn : k = n := by have := (nI_leI (a := n) (b := k) (by omega) (by omega)).mp c92; omega
                          refine lv_iinc (v := nI (i + 1)) (lv' := [(2, .int (nI (i + 1))), (0, .ref qM), (1, .int (nI j)), (3, .int (nI (48 * j + i))), (4, .int (nI k))]) hx hb dX4_begin_113 hl (k := 2) rfl (nI_add i 1) (by decide) rfl (fun ls hl => ?_)
                          refine lv_goto (tgt := 51) hx hb dX4_begin_116 (by decide) ?_
                          exact ih51 (i + 1) pc pn (by omega) (td_mI_put (by omega) (by omega) (by omega) hv hoth (by have z := hpx; rw [hkn] at z; exact z)) (by omega) _ _ (hP.sub [0, 1, 2, 3, 4] rfl) (hD.sub [0, 1, 2, 3, 4] (by decide) rfl) hS ls (lv_sub hl [1, 2, 0] rfl)
                        · have hkl : k < n := by rcases Nat.lt_or_ge k n with z | z; exact z; exact absurd (nI_le z (by omega)) c92
                          have hqb := td_px_b (g := g) (bg := bgN) (i := i) (j := j) (n := k) (fun z hz => hp z (by omega)) (by omega) (by omega) hbb
                          refine lv_aload_n hx hb dX4_begin_95 rfl (lv_at hl 0 rfl) ?_
                          refine lv_bipush (v := 14) hx hb dX4_begin_96 (by decide) ?_
                          refine lv_iload hx hb dX4_begin_98 (lv_at hl 4 rfl) ?_
                          refine lv_imul hx hb dX4_begin_100 ?_
                          refine td_ti (nI (14 * k)) (pk_mul 14 k) ?_
                          refine lv_iload_n hx hb dX4_begin_101 rfl (lv_at hl 2 rfl) ?_
                          refine lv_iload_n hx hb dX4_begin_102 rfl (lv_at hl 1 rfl) ?_
                          refine lv_iload_n hx hb dX4_begin_103 rfl (lv_at hl 3 rfl) ?_
                          refine td_cwv (wr := [(mD, .inl (cZ, 36, .inl gD))]) (va_runV (As := [.int (nI (14 * k)), .int (nI i), .int (nI j), .int (nI (48 * j + i))]) (rest := []) ⟨hx, hb, hml, hown, hts⟩ (tm_draw l dC dI cI cJ cZ H.size qM mP mC mN mD w h n mb 1 (nI n) g pc pn (14 * k) i j (48 * j + i) (td_px g bgN i j k).1 (td_px g bgN i j k).2 (by omega) (hp k hkl) (by omega) (by omega) (by omega) hpx.1 hqb.1 hpx.2 hqb.2) (cwV 4 hts (td_gV (td_i13 (List.mem_of_getElem? (i := 18) rfl)) (td_i13 (List.mem_of_getElem? (i := 19) rfl)) (td_i15 (List.mem_of_getElem? (i := 18) rfl)) (td_i1 (List.mem_of_getElem? (i := 6) rfl)) (td_i13 (List.mem_of_getElem? (i := 20) rfl))) rfl rfl rfl (by decide +kernel) ⟨(Nat.le_of_ble_eq_true rfl), (Nat.le_of_ble_eq_true rfl)⟩) (td_pWV hK hZ hP hD [0, 1, 2, 3] (by decide) rfl (va_recv hK hP (ci := 4) (q0 := 0) rfl rfl)) rfl rfl hl.1 rfl (lv_room (Nat.le_of_ble_eq_true rfl)) dX4_begin_104 ⟨Nat.zero_le _, Nat.zero_le _⟩) hP hD hS hA [0, 1, 2, 3] [4] rfl rfl (by decide) (by decide) (fun u H locs hdr hP hD hS => ?_)
                          obtain ⟨ec, en⟩ := u
                          try dsimp only at hdr
                          have hP : va_P (dC, dI) vwCl [(mD, .inl (cZ, 36, .inl gD)), (qM, .inr (4, [.int 0, .int (nI w), .int (nI h), .int (nI n), .ref mP, .int mb, .int 1, .int (nI n), .ref mC, .ref mN, .ref mD])), (mP, .inl (cI, 7180, .inl g)), (mC, .inl (cI, 2304, .inl ec)), (mN, .inl (cI, 2304, .inl en))] H := hP
                          have hD : va_D A [(mD, .inl (cZ, 36, .inl gD)), (qM, .inr (4, [.int 0, .int (nI w), .int (nI h), .int (nI n), .ref mP, .int mb, .int 1, .int (nI n), .ref mC, .ref mN, .ref mD])), (mP, .inl (cI, 7180, .inl g)), (mC, .inl (cI, 2304, .inl ec)), (mN, .inl (cI, 2304, .inl en))] := hD
                          refine lv_iinc (v := nI (k + 1)) (lv' := [(4, .int (nI (k + 1))), (0, .ref qM), (1, .int (nI j)), (2, .int (nI i)), (3, .int (nI (48 * j + i)))]) hx hb dX4_begin_107 hl (k := 4) rfl (nI_add k 1) (by decide) rfl (fun ls hl => ?_)
                          refine lv_goto (tgt := 86) hx hb dX4_begin_110 (by decide) ?_
                          exact ih86 (k + 1) ec en (by omega) (fun z hz => ⟨(hdr.1 z hz).1.trans (hoth z hz).1, (hdr.1 z hz).2.trans (hoth z hz).2⟩) ⟨hdr.2.1, hdr.2.2⟩ (by omega) _ _ (hP.sub [1, 2, 3, 4, 0] rfl) (hD.sub [1, 2, 3, 4, 0] (by decide) rfl) hS ls (lv_sub hl [1, 2, 3, 4, 0] rfl)
                    exact lp86 ((n - 0) + 1) 0 (upd gc (48 * j + i) mb) (upd gn (48 * j + i) 0) (Nat.zero_le _) (fun z hz => ⟨pk_un hz, pk_un hz⟩) ⟨pk_us.trans hbg, pk_us⟩ (Nat.lt_succ_self _) _ _ (hP.sub [0, 1, 2, 3, 4] rfl) (hD.sub [0, 1, 2, 3, 4] (by decide) rfl) hS ls (lv_sub hl [2, 3, 4, 1, 0] rfl)
              exact lp51 ((w - 0) + 1) 0 gc gn (Nat.zero_le _) hv (Nat.lt_succ_self _) _ _ (hP.sub [0, 1, 2, 3, 4] rfl) (hD.sub [0, 1, 2, 3, 4] (by decide) rfl) hS ls (lv_sub hl [1, 2, 0] rfl)
        exact lp41 ((h - 0) + 1) 0 fc fn (Nat.zero_le _) td_mI0 (Nat.lt_succ_self _) _ _ (hP.sub [0, 1, 2, 3, 4] rfl) (hD.sub [0, 1, 2, 3, 4] (by decide) rfl) hS ls (lv_sub hl [1, 0] rfl)
      · have ht2 : t < 36 := by rcases Nat.lt_or_ge t 36 with z | z; exact z; exact absurd (nI_le z (by omega)) c23
        refine lv_aload_n hx hb dX4_begin_26 rfl (lv_at hl 0 rfl) ?_
        refine va_get (D := (dC, dI)) (ci := 4) (v := .ref mD) (C := RX4) (T := TX4) (N := 11) hx hb hts td_fX4 hown hK hP 0 rfl rfl 10 (by decide) (hts (.fieldLink RX4 19 "TileDeskModel" "done" "[Z") (td_i12 (List.mem_of_getElem? (i := 9) rfl))) (fun _ h9 => h9) rfl dX4_begin_27 ?_
        refine lv_iload_n hx hb dX4_begin_30 rfl (lv_at hl 1 rfl) ?_
        refine lv_iconst (v := 0) hx hb dX4_begin_31 (by decide) ?_
        refine td_zast hx hb hK hP hD hS 4 2 t rfl rfl rfl (by omega) (by decide) rfl dX4_begin_32 (fun H locs hP hD hS => ?_)
        have hP : va_P (dC, dI) vwCl [(qM, .inr (4, [.int 0, .int (nI w), .int (nI h), .int (nI n), .ref mP, .int mb, .int 1, .int (nI n), .ref mC, .ref mN, .ref mD])), (mP, .inl (cI, 7180, .inl g)), (mC, .inl (cI, 2304, .inl fc)), (mN, .inl (cI, 2304, .inl fn)), (mD, .inl (cZ, 36, .inl (upd gD t 0)))] H := hP
        have hD : va_D A [(qM, .inr (4, [.int 0, .int (nI w), .int (nI h), .int (nI n), .ref mP, .int mb, .int 1, .int (nI n), .ref mC, .ref mN, .ref mD])), (mP, .inl (cI, 7180, .inl g)), (mC, .inl (cI, 2304, .inl fc)), (mN, .inl (cI, 2304, .inl fn)), (mD, .inl (cZ, 36, .inl (upd gD t 0)))] := hD
        refine lv_iinc (v := nI (t + 1)) (lv' := [(1, .int (nI (t + 1))), (0, .ref qM)]) hx hb dX4_begin_33 hl (k := 1) rfl (nI_add t 1) (by decide) rfl (fun ls hl => ?_)
        refine lv_goto (tgt := 20) hx hb dX4_begin_36 (by decide) ?_
        exact ih20 (t + 1) (upd gD t 0) (by omega) (td_zst hz) (by omega) _ _ (hP.sub [0, 1, 2, 3, 4] rfl) (hD.sub [0, 1, 2, 3, 4] (by decide) rfl) hS ls (lv_sub hl [1, 0] rfl)
  exact lp20 ((36 - 0) + 1) 0 fD (Nat.zero_le _) (fun z h => absurd h (Nat.not_lt_zero _)) (Nat.lt_succ_self _) _ _ (hP.sub [0, 1, 2, 3, 4] rfl) (hD.sub [0, 1, 2, 3, 4] (by decide) rfl) hS ls (lv_sub hl [1, 0] rfl)
