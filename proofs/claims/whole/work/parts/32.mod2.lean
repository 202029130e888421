set_option maxHeartbeats 4000000 in
set_option maxRecDepth 100000 in
/-- corner -/
theorem tm_corner (l : Launch) (dC : Nat → ClassId) (dI : Nat → Nat → Nat) (cI cJ cZ : ClassId) (sz : Nat) (qM : Nat) (mP : Nat) (mC : Nat) (mN : Nat) (mD : Nat) (w : Nat) (h : Nat) (n : Nat) (mb : Int32) (mg : Int32) (tk : Int32) (g : Nat → Int32) (k : Int32) (x : Int32) (y : Int32) (rr : Int32) (lt : Int32) : Met l yX4_corner wsX4_corner ({ frames := 0, cells := 0, slots := 0, locals := 0 }) (td_WP (dC, dI) vwCl (td_T cI cJ cZ) td_nl [(qM, .inr (4, [.int 0, .int (nI w), .int (nI h), .int (nI n), .ref mP, .int mb, .int mg, .int tk, .ref mC, .ref mN, .ref mD])), (mP, .inl (cI, 7180, .inl g))] sz [.ref qM, .int k, .int x, .int y, .int rr, .int lt]) (va_Qi (S := (Nat → Int32)) (fun r u => (r = 1 ∧ td_cok k x y rr lt ∧ ∃ kk, kk < 3 ∧ k = nI kk ∧ u = upd (upd (upd (upd g (7168 + 4 * kk) x) (7168 + 4 * kk + 1) y) (7168 + 4 * kk + 2) rr) (7168 + 4 * kk + 3) lt) ∨ (r = 0 ∧ ¬ td_cok k x y rr lt ∧ u = g)) (td_B (dC, dI) vwCl (td_T cI cJ cZ) (va_A [(qM, .inr (4, [.int 0, .int (nI w), .int (nI h), .int (nI n), .ref mP, .int mb, .int mg, .int tk, .ref mC, .ref mN, .ref mD])), (mP, .inl (cI, 7180, .inl g))] sz) (fun (u : (Nat → Int32)) => [(qM, .inr (4, [.int 0, .int (nI w), .int (nI h), .int (nI n), .ref mP, .int mb, .int mg, .int tk, .ref mC, .ref mN, .ref mD])), (mP, .inl (cI, 7180, .inl u))])) (va_A [(qM, .inr (4, [.int 0, .int (nI w), .int (nI h), .int (nI n), .ref mP, .int mb, .int mg, .int tk, .ref mC, .ref mN, .ref mD])), (mP, .inl (cI, 7180, .inl g))] sz)) 0 0 (va_A [(qM, .inr (4, [.int 0, .int (nI w), .int (nI h), .int (nI n), .ref mP, .int mb, .int mg, .int tk, .ref mC, .ref mN, .ref mD])), (mP, .inl (cI, 7180, .inl g))] sz) := by
  refine Met.ofW (cc := cX4_corner) (maxL := 7) (ret := (some .boolean)) (by decide) rfl ?_
  intro p e s m args below meth c s₁ B hml hv
  obtain ⟨rfl, hsz, hP, hK, hZ, hD0⟩ := hv
  have hx := B.exec
  have hb := B.bytes
  have hr := B.returns
  have hts := atoms_spec (ws := wsX4_corner) B.pre
  have hown : s.vm.findClass RX4 = some m.cls := findClass_of_methodNamed B.named
  have hlocks := B.notSynchronized
  subst hsz
  have hD := hD0.self (sz := s.heap.size)
  generalize hAe : va_A [(qM, .inr (4, [.int 0, .int (nI w), .int (nI h), .int (nI n), .ref mP, .int mb, .int mg, .int tk, .ref mC, .ref mN, .ref mD])), (mP, .inl (cI, 7180, .inl g))] s.heap.size = A at hD ⊢
  have hA : ∀ q : Nat, s.heap.size ≤ q → A q := fun q h => by rw [← hAe]; exact Or.inr h
  have hS : va_S A s.heap s.heap [] := va_S.rf
  have hP : va_P (dC, dI) vwCl [(qM, .inr (4, [.int 0, .int (nI w), .int (nI h), .int (nI n), .ref mP, .int mb, .int mg, .int tk, .ref mC, .ref mN, .ref mD])), (mP, .inl (cI, 7180, .inl g))] s.heap := hP
  have hl := lv_entry ([.ref qM, .int k, .int x, .int y, .int rr, .int lt]) (n := 7) (Nat.le_of_ble_eq_true rfl)
  rw [lg_entry_eq]
  generalize (lg_sl ([.ref qM, .int k, .int x, .int y, .int rr, .int lt]) ++ List.replicate (7 - (lg_sl ([.ref qM, .int k, .int x, .int y, .int rr, .int lt])).length) Slot.unset).toArray = ls at hl ⊢
  have hl : lv_has ls 7 [(0, .ref qM), (1, .int k), (2, .int x), (3, .int y), (4, .int rr), (5, .int lt)] := hl
  refine lv_aload_n hx hb dX4_corner_0 rfl (lv_at hl 0 rfl) ?_
  refine lv_iconst (v := 0) hx hb dX4_corner_1 (by decide) ?_
  refine va_put (D := (dC, dI)) (ci := 4) (v := .int 0) (ty := .int) (C := RX4) (T := TX4) (N := 11) hx hb hts td_fX4 tyX4 tyX4_ok nmX4 hown hK hP hD hS 0 rfl rfl 0 (by decide) (hts (.fieldLink RX4 30 "TileDeskModel" "thrown" "I") (td_i11 (List.mem_of_getElem? (i := 23) rfl))) (fun _ h9 => h9) rfl (by decide +kernel) rfl rfl (Nat.le_of_ble_eq_true rfl) dX4_corner_2 (fun H locs hP hD hS => ?_)
  have hP : va_P (dC, dI) vwCl [(qM, .inr (4, [.int 0, .int (nI w), .int (nI h), .int (nI n), .ref mP, .int mb, .int mg, .int tk, .ref mC, .ref mN, .ref mD])), (mP, .inl (cI, 7180, .inl g))] H := hP
  have hD : va_D A [(qM, .inr (4, [.int 0, .int (nI w), .int (nI h), .int (nI n), .ref mP, .int mb, .int mg, .int tk, .ref mC, .ref mN, .ref mD])), (mP, .inl (cI, 7180, .inl g))] := hD
  refine lv_iload_n hx hb dX4_corner_5 rfl (lv_at hl 1 rfl) ?_
  refine lv_if_lt (tgt := 71) hx hb dX4_corner_6 (by decide) (fun c6 => ?_) (fun c6 => ?_)
  · refine lv_iconst (v := 0) hx hb dX4_corner_71 (by decide) ?_
    refine lv_istore (lv' := [(6, .int 0), (0, .ref qM), (1, .int k), (2, .int x), (3, .int y), (4, .int rr), (5, .int lt)]) hx hb dX4_corner_72 hl (by decide) rfl (fun ls hl => ?_)
    refine lv_iload hx hb dX4_corner_74 (lv_at hl 0 rfl) ?_
    refine lv_if_eq (tgt := 139) hx hb dX4_corner_76 (by decide) (fun c76 => ?_) (fun c76 => ?_)
    · refine lv_iload hx hb dX4_corner_139 (lv_at hl 0 rfl) ?_
      have hP9 := hP.sub (ws' := [(qM, .inr (4, [.int 0, .int (nI w), .int (nI h), .int (nI n), .ref mP, .int mb, .int mg, .int tk, .ref mC, .ref mN, .ref mD])), (mP, .inl (cI, 7180, .inl g))]) [0, 1] rfl
      have hD9 := hD.sub (ws' := [(qM, .inr (4, [.int 0, .int (nI w), .int (nI h), .int (nI n), .ref mP, .int mb, .int mg, .int tk, .ref mC, .ref mN, .ref mD])), (mP, .inl (cI, 7180, .inl g))]) [0, 1] (by decide) rfl
      exact td_rwi g hx hb hr rfl hlocks hK (Or.inr ⟨rfl, fun z => absurd c6 (Int32.not_lt.mpr z.1.1), rfl⟩) hP9 hD9 hS dX4_corner_141
    · exact absurd c76 (by decide)
  · refine lv_iload_n hx hb dX4_corner_9 rfl (lv_at hl 1 rfl) ?_
    refine lv_iconst (v := 3) hx hb dX4_corner_10 (by decide) ?_
    refine lv_icmp_ge (tgt := 71) hx hb dX4_corner_11 (by decide) (fun c11 => ?_) (fun c11 => ?_)
    · refine lv_iconst (v := 0) hx hb dX4_corner_71 (by decide) ?_
      refine lv_istore (lv' := [(6, .int 0), (0, .ref qM), (1, .int k), (2, .int x), (3, .int y), (4, .int rr), (5, .int lt)]) hx hb dX4_corner_72 hl (by decide) rfl (fun ls hl => ?_)
      refine lv_iload hx hb dX4_corner_74 (lv_at hl 0 rfl) ?_
      refine lv_if_eq (tgt := 139) hx hb dX4_corner_76 (by decide) (fun c76 => ?_) (fun c76 => ?_)
      · refine lv_iload hx hb dX4_corner_139 (lv_at hl 0 rfl) ?_
        have hP9 := hP.sub (ws' := [(qM, .inr (4, [.int 0, .int (nI w), .int (nI h), .int (nI n), .ref mP, .int mb, .int mg, .int tk, .ref mC, .ref mN, .ref mD])), (mP, .inl (cI, 7180, .inl g))]) [0, 1] rfl
        have hD9 := hD.sub (ws' := [(qM, .inr (4, [.int 0, .int (nI w), .int (nI h), .int (nI n), .ref mP, .int mb, .int mg, .int tk, .ref mC, .ref mN, .ref mD])), (mP, .inl (cI, 7180, .inl g))]) [0, 1] (by decide) rfl
        exact td_rwi g hx hb hr rfl hlocks hK (Or.inr ⟨rfl, fun z => td_lt3n c11 z.1.2, rfl⟩) hP9 hD9 hS dX4_corner_141
      · exact absurd c76 (by decide)
    · refine lv_iload_n hx hb dX4_corner_14 rfl (lv_at hl 2 rfl) ?_
      refine lv_sipush (v := (-4096)) hx hb dX4_corner_15 (by decide) ?_
      refine lv_icmp_lt (tgt := 71) hx hb dX4_corner_18 (by decide) (fun c18 => ?_) (fun c18 => ?_)
      · refine lv_iconst (v := 0) hx hb dX4_corner_71 (by decide) ?_
        refine lv_istore (lv' := [(6, .int 0), (0, .ref qM), (1, .int k), (2, .int x), (3, .int y), (4, .int rr), (5, .int lt)]) hx hb dX4_corner_72 hl (by decide) rfl (fun ls hl => ?_)
        refine lv_iload hx hb dX4_corner_74 (lv_at hl 0 rfl) ?_
        refine lv_if_eq (tgt := 139) hx hb dX4_corner_76 (by decide) (fun c76 => ?_) (fun c76 => ?_)
        · refine lv_iload hx hb dX4_corner_139 (lv_at hl 0 rfl) ?_
          have hP9 := hP.sub (ws' := [(qM, .inr (4, [.int 0, .int (nI w), .int (nI h), .int (nI n), .ref mP, .int mb, .int mg, .int tk, .ref mC, .ref mN, .ref mD])), (mP, .inl (cI, 7180, .inl g))]) [0, 1] rfl
          have hD9 := hD.sub (ws' := [(qM, .inr (4, [.int 0, .int (nI w), .int (nI h), .int (nI n), .ref mP, .int mb, .int mg, .int tk, .ref mC, .ref mN, .ref mD])), (mP, .inl (cI, 7180, .inl g))]) [0, 1] (by decide) rfl
          exact td_rwi g hx hb hr rfl hlocks hK (Or.inr ⟨rfl, fun z => absurd c18 (Int32.not_lt.mpr z.2.1.1), rfl⟩) hP9 hD9 hS dX4_corner_141
        · exact absurd c76 (by decide)
      · refine lv_iload_n hx hb dX4_corner_21 rfl (lv_at hl 2 rfl) ?_
        refine lv_sipush (v := 4096) hx hb dX4_corner_22 (by decide) ?_
        refine lv_icmp_gt (tgt := 71) hx hb dX4_corner_25 (by decide) (fun c25 => ?_) (fun c25 => ?_)
        · refine lv_iconst (v := 0) hx hb dX4_corner_71 (by decide) ?_
          refine lv_istore (lv' := [(6, .int 0), (0, .ref qM), (1, .int k), (2, .int x), (3, .int y), (4, .int rr), (5, .int lt)]) hx hb dX4_corner_72 hl (by decide) rfl (fun ls hl => ?_)
          refine lv_iload hx hb dX4_corner_74 (lv_at hl 0 rfl) ?_
          refine lv_if_eq (tgt := 139) hx hb dX4_corner_76 (by decide) (fun c76 => ?_) (fun c76 => ?_)
          · refine lv_iload hx hb dX4_corner_139 (lv_at hl 0 rfl) ?_
            have hP9 := hP.sub (ws' := [(qM, .inr (4, [.int 0, .int (nI w), .int (nI h), .int (nI n), .ref mP, .int mb, .int mg, .int tk, .ref mC, .ref mN, .ref mD])), (mP, .inl (cI, 7180, .inl g))]) [0, 1] rfl
            have hD9 := hD.sub (ws' := [(qM, .inr (4, [.int 0, .int (nI w), .int (nI h), .int (nI n), .ref mP, .int mb, .int mg, .int tk, .ref mC, .ref mN, .ref mD])), (mP, .inl (cI, 7180, .inl g))]) [0, 1] (by decide) rfl
            exact td_rwi g hx hb hr rfl hlocks hK (Or.inr ⟨rfl, fun z => absurd c25 (Int32.not_lt.mpr z.2.1.2), rfl⟩) hP9 hD9 hS dX4_corner_141
          · exact absurd c76 (by decide)
        · refine lv_iload_n hx hb dX4_corner_28 rfl (lv_at hl 3 rfl) ?_
          refine lv_sipush (v := (-4096)) hx hb dX4_corner_29 (by decide) ?_
          refine lv_icmp_lt (tgt := 71) hx hb dX4_corner_32 (by decide) (fun c32 => ?_) (fun c32 => ?_)
          · refine lv_iconst (v := 0) hx hb dX4_corner_71 (by decide) ?_
            refine lv_istore (lv' := [(6, .int 0), (0, .ref qM), (1, .int k), (2, .int x), (3, .int y), (4, .int rr), (5, .int lt)]) hx hb dX4_corner_72 hl (by decide) rfl (fun ls hl => ?_)
            refine lv_iload hx hb dX4_corner_74 (lv_at hl 0 rfl) ?_
            refine lv_if_eq (tgt := 139) hx hb dX4_corner_76 (by decide) (fun c76 => ?_) (fun c76 => ?_)
            · refine lv_iload hx hb dX4_corner_139 (lv_at hl 0 rfl) ?_
              have hP9 := hP.sub (ws' := [(qM, .inr (4, [.int 0, .int (nI w), .int (nI h), .int (nI n), .ref mP, .int mb, .int mg, .int tk, .ref mC, .ref mN, .ref mD])), (mP, .inl (cI, 7180, .inl g))]) [0, 1] rfl
              have hD9 := hD.sub (ws' := [(qM, .inr (4, [.int 0, .int (nI w), .int (nI h), .int (nI n), .ref mP, .int mb, .int mg, .int tk, .ref mC, .ref mN, .ref mD])), (mP, .inl (cI, 7180, .inl g))]) [0, 1] (by decide) rfl
              exact td_rwi g hx hb hr rfl hlocks hK (Or.inr ⟨rfl, fun z => absurd c32 (Int32.not_lt.mpr z.2.2.1.1), rfl⟩) hP9 hD9 hS dX4_corner_141
            · exact absurd c76 (by decide)
          · refine lv_iload_n hx hb dX4_corner_35 rfl (lv_at hl 3 rfl) ?_
            refine lv_sipush (v := 4096) hx hb dX4_corner_36 (by decide) ?_
            refine lv_icmp_gt (tgt := 71) hx hb dX4_corner_39 (by decide) (fun c39 => ?_) (fun c39 => ?_)
            · refine lv_iconst (v := 0) hx hb dX4_corner_71 (by decide) ?_
              refine lv_istore (lv' := [(6, .int 0), (0, .ref qM), (1, .int k), (2, .int x), (3, .int y), (4, .int rr), (5, .int lt)]) hx hb dX4_corner_72 hl (by decide) rfl (fun ls hl => ?_)
              refine lv_iload hx hb dX4_corner_74 (lv_at hl 0 rfl) ?_
              refine lv_if_eq (tgt := 139) hx hb dX4_corner_76 (by decide) (fun c76 => ?_) (fun c76 => ?_)
              · refine lv_iload hx hb dX4_corner_139 (lv_at hl 0 rfl) ?_
                have hP9 := hP.sub (ws' := [(qM, .inr (4, [.int 0, .int (nI w), .int (nI h), .int (nI n), .ref mP, .int mb, .int mg, .int tk, .ref mC, .ref mN, .ref mD])), (mP, .inl (cI, 7180, .inl g))]) [0, 1] rfl
                have hD9 := hD.sub (ws' := [(qM, .inr (4, [.int 0, .int (nI w), .int (nI h), .int (nI n), .ref mP, .int mb, .int mg, .int tk, .ref mC, .ref mN, .ref mD])), (mP, .inl (cI, 7180, .inl g))]) [0, 1] (by decide) rfl
                exact td_rwi g hx hb hr rfl hlocks hK (Or.inr ⟨rfl, fun z => absurd c39 (Int32.not_lt.mpr z.2.2.1.2), rfl⟩) hP9 hD9 hS dX4_corner_141
              · exact absurd c76 (by decide)
            · refine lv_iload hx hb dX4_corner_42 (lv_at hl 4 rfl) ?_
              refine lv_iconst (v := 1) hx hb dX4_corner_44 (by decide) ?_
              refine lv_icmp_lt (tgt := 71) hx hb dX4_corner_45 (by decide) (fun c45 => ?_) (fun c45 => ?_)
              · refine lv_iconst (v := 0) hx hb dX4_corner_71 (by decide) ?_
                refine lv_istore (lv' := [(6, .int 0), (0, .ref qM), (1, .int k), (2, .int x), (3, .int y), (4, .int rr), (5, .int lt)]) hx hb dX4_corner_72 hl (by decide) rfl (fun ls hl => ?_)
                refine lv_iload hx hb dX4_corner_74 (lv_at hl 0 rfl) ?_
                refine lv_if_eq (tgt := 139) hx hb dX4_corner_76 (by decide) (fun c76 => ?_) (fun c76 => ?_)
                · refine lv_iload hx hb dX4_corner_139 (lv_at hl 0 rfl) ?_
                  have hP9 := hP.sub (ws' := [(qM, .inr (4, [.int 0, .int (nI w), .int (nI h), .int (nI n), .ref mP, .int mb, .int mg, .int tk, .ref mC, .ref mN, .ref mD])), (mP, .inl (cI, 7180, .inl g))]) [0, 1] rfl
                  have hD9 := hD.sub (ws' := [(qM, .inr (4, [.int 0, .int (nI w), .int (nI h), .int (nI n), .ref mP, .int mb, .int mg, .int tk, .ref mC, .ref mN, .ref mD])), (mP, .inl (cI, 7180, .inl g))]) [0, 1] (by decide) rfl
                  exact td_rwi g hx hb hr rfl hlocks hK (Or.inr ⟨rfl, fun z => absurd c45 (Int32.not_lt.mpr z.2.2.2.1.1), rfl⟩) hP9 hD9 hS dX4_corner_141
                · exact absurd c76 (by decide)
              · refine lv_iload hx hb dX4_corner_48 (lv_at hl 4 rfl) ?_
                refine lv_ldc (own := RX4) (v := 1048576) hx hb hown (hts (.constant RX4 33 1048576) (td_i12 (List.mem_of_getElem? (i := 14) rfl))) dX4_corner_50 ?_
                refine lv_icmp_gt (tgt := 71) hx hb dX4_corner_52 (by decide) (fun c52 => ?_) (fun c52 => ?_)
                · refine lv_iconst (v := 0) hx hb dX4_corner_71 (by decide) ?_
                  refine lv_istore (lv' := [(6, .int 0), (0, .ref qM), (1, .int k), (2, .int x), (3, .int y), (4, .int rr), (5, .int lt)]) hx hb dX4_corner_72 hl (by decide) rfl (fun ls hl => ?_)
                  refine lv_iload hx hb dX4_corner_74 (lv_at hl 0 rfl) ?_
                  refine lv_if_eq (tgt := 139) hx hb dX4_corner_76 (by decide) (fun c76 => ?_) (fun c76 => ?_)
                  · refine lv_iload hx hb dX4_corner_139 (lv_at hl 0 rfl) ?_
                    have hP9 := hP.sub (ws' := [(qM, .inr (4, [.int 0, .int (nI w), .int (nI h), .int (nI n), .ref mP, .int mb, .int mg, .int tk, .ref mC, .ref mN, .ref mD])), (mP, .inl (cI, 7180, .inl g))]) [0, 1] rfl
                    have hD9 := hD.sub (ws' := [(qM, .inr (4, [.int 0, .int (nI w), .int (nI h), .int (nI n), .ref mP, .int mb, .int mg, .int tk, .ref mC, .ref mN, .ref mD])), (mP, .inl (cI, 7180, .inl g))]) [0, 1] (by decide) rfl
                    exact td_rwi g hx hb hr rfl hlocks hK (Or.inr ⟨rfl, fun z => absurd c52 (Int32.not_lt.mpr z.2.2.2.1.2), rfl⟩) hP9 hD9 hS dX4_corner_141
                  · exact absurd c76 (by decide)
                · refine lv_iload hx hb dX4_corner_55 (lv_at hl 5 rfl) ?_
                  refine lv_if_lt (tgt := 71) hx hb dX4_corner_57 (by decide) (fun c57 => ?_) (fun c57 => ?_)
                  · refine lv_iconst (v := 0) hx hb dX4_corner_71 (by decide) ?_
                    refine lv_istore (lv' := [(6, .int 0), (0, .ref qM), (1, .int k), (2, .int x), (3, .int y), (4, .int rr), (5, .int lt)]) hx hb dX4_corner_72 hl (by decide) rfl (fun ls hl => ?_)
                    refine lv_iload hx hb dX4_corner_74 (lv_at hl 0 rfl) ?_
                    refine lv_if_eq (tgt := 139) hx hb dX4_corner_76 (by decide) (fun c76 => ?_) (fun c76 => ?_)
                    · refine lv_iload hx hb dX4_corner_139 (lv_at hl 0 rfl) ?_
                      have hP9 := hP.sub (ws' := [(qM, .inr (4, [.int 0, .int (nI w), .int (nI h), .int (nI n), .ref mP, .int mb, .int mg, .int tk, .ref mC, .ref mN, .ref mD])), (mP, .inl (cI, 7180, .inl g))]) [0, 1] rfl
                      have hD9 := hD.sub (ws' := [(qM, .inr (4, [.int 0, .int (nI w), .int (nI h), .int (nI n), .ref mP, .int mb, .int mg, .int tk, .ref mC, .ref mN, .ref mD])), (mP, .inl (cI, 7180, .inl g))]) [0, 1] (by decide) rfl
                      exact td_rwi g hx hb hr rfl hlocks hK (Or.inr ⟨rfl, fun z => absurd c57 (Int32.not_lt.mpr z.2.2.2.2.1), rfl⟩) hP9 hD9 hS dX4_corner_141
                    · exact absurd c76 (by decide)
                  · refine lv_iload hx hb dX4_corner_60 (lv_at hl 5 rfl) ?_
                    refine lv_ldc (own := RX4) (v := 65536) hx hb hown (hts (.constant RX4 34 65536) (td_i12 (List.mem_of_getElem? (i := 15) rfl))) dX4_corner_62 ?_
                    refine lv_icmp_gt (tgt := 71) hx hb dX4_corner_64 (by decide) (fun c64 => ?_) (fun c64 => ?_)
                    · refine lv_iconst (v := 0) hx hb dX4_corner_71 (by decide) ?_
                      refine lv_istore (lv' := [(6, .int 0), (0, .ref qM), (1, .int k), (2, .int x), (3, .int y), (4, .int rr), (5, .int lt)]) hx hb dX4_corner_72 hl (by decide) rfl (fun ls hl => ?_)
                      refine lv_iload hx hb dX4_corner_74 (lv_at hl 0 rfl) ?_
                      refine lv_if_eq (tgt := 139) hx hb dX4_corner_76 (by decide) (fun c76 => ?_) (fun c76 => ?_)
                      · refine lv_iload hx hb dX4_corner_139 (lv_at hl 0 rfl) ?_
                        have hP9 := hP.sub (ws' := [(qM, .inr (4, [.int 0, .int (nI w), .int (nI h), .int (nI n), .ref mP, .int mb, .int mg, .int tk, .ref mC, .ref mN, .ref mD])), (mP, .inl (cI, 7180, .inl g))]) [0, 1] rfl
                        have hD9 := hD.sub (ws' := [(qM, .inr (4, [.int 0, .int (nI w), .int (nI h), .int (nI n), .ref mP, .int mb, .int mg, .int tk, .ref mC, .ref mN, .ref mD])), (mP, .inl (cI, 7180, .inl g))]) [0, 1] (by decide) rfl
                        exact td_rwi g hx hb hr rfl hlocks hK (Or.inr ⟨rfl, fun z => absurd c64 (Int32.not_lt.mpr z.2.2.2.2.2), rfl⟩) hP9 hD9 hS dX4_corner_141
                      · exact absurd c76 (by decide)
                    · have hok : td_cok k x y rr lt := ⟨⟨Int32.not_lt.mp c6, td_lt3 c11⟩, ⟨Int32.not_lt.mp c18, Int32.not_lt.mp c25⟩, ⟨Int32.not_lt.mp c32, Int32.not_lt.mp c39⟩, ⟨Int32.not_lt.mp c45, Int32.not_lt.mp c52⟩, ⟨Int32.not_lt.mp c57, Int32.not_lt.mp c64⟩⟩
                      obtain ⟨kk, hkk, ekk⟩ := td_nat (b := 2) hok.1 (by decide)
                      refine lv_iconst (v := 1) hx hb dX4_corner_67 (by decide) ?_
                      refine lv_goto (tgt := 72) hx hb dX4_corner_68 (by decide) ?_
                      refine lv_istore (lv' := [(6, .int 1), (0, .ref qM), (1, .int k), (2, .int x), (3, .int y), (4, .int rr), (5, .int lt)]) hx hb dX4_corner_72 hl (by decide) rfl (fun ls hl => ?_)
                      refine lv_iload hx hb dX4_corner_74 (lv_at hl 0 rfl) ?_
                      refine lv_if_eq (tgt := 139) hx hb dX4_corner_76 (by decide) (fun c76 => ?_) (fun c76 => ?_)
                      · exact absurd c76 (by decide)
                      · refine lv_aload_n hx hb dX4_corner_79 rfl (lv_at hl 1 rfl) ?_
                        refine va_get (D := (dC, dI)) (ci := 4) (v := .ref mP) (C := RX4) (T := TX4) (N := 11) hx hb hts td_fX4 hown hK hP 0 rfl rfl 4 (by decide) (hts (.fieldLink RX4 7 "TileDeskModel" "pieces" "[I") (td_i12 (List.mem_of_getElem? (i := 3) rfl))) (fun _ h9 => h9) rfl dX4_corner_80 ?_
                        refine lv_sipush (v := 7168) hx hb dX4_corner_83 (by decide) ?_
                        refine lv_iconst (v := 4) hx hb dX4_corner_86 (by decide) ?_
                        refine lv_iload_n hx hb dX4_corner_87 rfl (lv_at hl 2 rfl) ?_
                        refine td_ti (nI kk) (ekk) ?_
                        refine lv_imul hx hb dX4_corner_88 ?_
                        refine td_ti (nI (4 * kk)) (pk_mul 4 kk) ?_
                        refine lv_iadd hx hb dX4_corner_89 ?_
                        refine td_ti (nI (7168 + 4 * kk)) (nI_add 7168 (4 * kk)) ?_
                        refine lv_iload_n hx hb dX4_corner_90 rfl (lv_at hl 3 rfl) ?_
                        refine td_iast hx hb hK hP hD hS 1 0 (7168 + 4 * kk) rfl rfl rfl (by omega) (by decide) dX4_corner_91 (fun H locs hP hD hS => ?_)
                        have hP : va_P (dC, dI) vwCl [(qM, .inr (4, [.int 0, .int (nI w), .int (nI h), .int (nI n), .ref mP, .int mb, .int mg, .int tk, .ref mC, .ref mN, .ref mD])), (mP, .inl (cI, 7180, .inl (upd g (7168 + 4 * kk) x)))] H := hP
                        have hD : va_D A [(qM, .inr (4, [.int 0, .int (nI w), .int (nI h), .int (nI n), .ref mP, .int mb, .int mg, .int tk, .ref mC, .ref mN, .ref mD])), (mP, .inl (cI, 7180, .inl (upd g (7168 + 4 * kk) x)))] := hD
                        refine lv_aload_n hx hb dX4_corner_92 rfl (lv_at hl 1 rfl) ?_
                        refine va_get (D := (dC, dI)) (ci := 4) (v := .ref mP) (C := RX4) (T := TX4) (N := 11) hx hb hts td_fX4 hown hK hP 0 rfl rfl 4 (by decide) (hts (.fieldLink RX4 7 "TileDeskModel" "pieces" "[I") (td_i12 (List.mem_of_getElem? (i := 3) rfl))) (fun _ h9 => h9) rfl dX4_corner_93 ?_
                        refine lv_sipush (v := 7168) hx hb dX4_corner_96 (by decide) ?_
                        refine lv_iconst (v := 4) hx hb dX4_corner_99 (by decide) ?_
                        refine lv_iload_n hx hb dX4_corner_100 rfl (lv_at hl 2 rfl) ?_
                        refine td_ti (nI kk) (ekk) ?_
                        refine lv_imul hx hb dX4_corner_101 ?_
                        refine td_ti (nI (4 * kk)) (pk_mul 4 kk) ?_
                        refine lv_iadd hx hb dX4_corner_102 ?_
                        refine td_ti (nI (7168 + 4 * kk)) (nI_add 7168 (4 * kk)) ?_
                        refine lv_iconst (v := 1) hx hb dX4_corner_103 (by decide) ?_
                        refine lv_iadd hx hb dX4_corner_104 ?_
                        refine td_ti (nI (7168 + 4 * kk + 1)) (nI_add (7168 + 4 * kk) 1) ?_
                        refine lv_iload_n hx hb dX4_corner_105 rfl (lv_at hl 4 rfl) ?_
                        refine td_iast hx hb hK hP hD hS 1 0 (7168 + 4 * kk + 1) rfl rfl rfl (by omega) (by decide) dX4_corner_106 (fun H locs hP hD hS => ?_)
                        have hP : va_P (dC, dI) vwCl [(qM, .inr (4, [.int 0, .int (nI w), .int (nI h), .int (nI n), .ref mP, .int mb, .int mg, .int tk, .ref mC, .ref mN, .ref mD])), (mP, .inl (cI, 7180, .inl (upd (upd g (7168 + 4 * kk) x) (7168 + 4 * kk + 1) y)))] H := hP
                        have hD : va_D A [(qM, .inr (4, [.int 0, .int (nI w), .int (nI h), .int (nI n), .ref mP, .int mb, .int mg, .int tk, .ref mC, .ref mN, .ref mD])), (mP, .inl (cI, 7180, .inl (upd (upd g (7168 + 4 * kk) x) (7168 + 4 * kk + 1) y)))] := hD
                        refine lv_aload_n hx hb dX4_corner_107 rfl (lv_at hl 1 rfl) ?_
                        refine va_get (D := (dC, dI)) (ci := 4) (v := .ref mP) (C := RX4) (T := TX4) (N := 11) hx hb hts td_fX4 hown hK hP 0 rfl rfl 4 (by decide) (hts (.fieldLink RX4 7 "TileDeskModel" "pieces" "[I") (td_i12 (List.mem_of_getElem? (i := 3) rfl))) (fun _ h9 => h9) rfl dX4_corner_108 ?_
                        refine lv_sipush (v := 7168) hx hb dX4_corner_111 (by decide) ?_
                        refine lv_iconst (v := 4) hx hb dX4_corner_114 (by decide) ?_
                        refine lv_iload_n hx hb dX4_corner_115 rfl (lv_at hl 2 rfl) ?_
                        refine td_ti (nI kk) (ekk) ?_
                        refine lv_imul hx hb dX4_corner_116 ?_
                        refine td_ti (nI (4 * kk)) (pk_mul 4 kk) ?_
                        refine lv_iadd hx hb dX4_corner_117 ?_
                        refine td_ti (nI (7168 + 4 * kk)) (nI_add 7168 (4 * kk)) ?_
                        refine lv_iconst (v := 2) hx hb dX4_corner_118 (by decide) ?_
                        refine lv_iadd hx hb dX4_corner_119 ?_
                        refine td_ti (nI (7168 + 4 * kk + 2)) (nI_add (7168 + 4 * kk) 2) ?_
                        refine lv_iload hx hb dX4_corner_120 (lv_at hl 5 rfl) ?_
                        refine td_iast hx hb hK hP hD hS 1 0 (7168 + 4 * kk + 2) rfl rfl rfl (by omega) (by decide) dX4_corner_122 (fun H locs hP hD hS => ?_)
                        have hP : va_P (dC, dI) vwCl [(qM, .inr (4, [.int 0, .int (nI w), .int (nI h), .int (nI n), .ref mP, .int mb, .int mg, .int tk, .ref mC, .ref mN, .ref mD])), (mP, .inl (cI, 7180, .inl (upd (upd (upd g (7168 + 4 * kk) x) (7168 + 4 * kk + 1) y) (7168 + 4 * kk + 2) rr)))] H := hP
                        have hD : va_D A [(qM, .inr (4, [.int 0, .int (nI w), .int (nI h), .int (nI n), .ref mP, .int mb, .int mg, .int tk, .ref mC, .ref mN, .ref mD])), (mP, .inl (cI, 7180, .inl (upd (upd (upd g (7168 + 4 * kk) x) (7168 + 4 * kk + 1) y) (7168 + 4 * kk + 2) rr)))] := hD
                        refine lv_aload_n hx hb dX4_corner_123 rfl (lv_at hl 1 rfl) ?_
                        refine va_get (D := (dC, dI)) (ci := 4) (v := .ref mP) (C := RX4) (T := TX4) (N := 11) hx hb hts td_fX4 hown hK hP 0 rfl rfl 4 (by decide) (hts (.fieldLink RX4 7 "TileDeskModel" "pieces" "[I") (td_i12 (List.mem_of_getElem? (i := 3) rfl))) (fun _ h9 => h9) rfl dX4_corner_124 ?_
                        refine lv_sipush (v := 7168) hx hb dX4_corner_127 (by decide) ?_
                        refine lv_iconst (v := 4) hx hb dX4_corner_130 (by decide) ?_
                        refine lv_iload_n hx hb dX4_corner_131 rfl (lv_at hl 2 rfl) ?_
                        refine td_ti (nI kk) (ekk) ?_
                        refine lv_imul hx hb dX4_corner_132 ?_
                        refine td_ti (nI (4 * kk)) (pk_mul 4 kk) ?_
                        refine lv_iadd hx hb dX4_corner_133 ?_
                        refine td_ti (nI (7168 + 4 * kk)) (nI_add 7168 (4 * kk)) ?_
                        refine lv_iconst (v := 3) hx hb dX4_corner_134 (by decide) ?_
                        refine lv_iadd hx hb dX4_corner_135 ?_
                        refine td_ti (nI (7168 + 4 * kk + 3)) (nI_add (7168 + 4 * kk) 3) ?_
                        refine lv_iload hx hb dX4_corner_136 (lv_at hl 6 rfl) ?_
                        refine td_iast hx hb hK hP hD hS 1 0 (7168 + 4 * kk + 3) rfl rfl rfl (by omega) (by decide) dX4_corner_138 (fun H locs hP hD hS => ?_)
                        have hP : va_P (dC, dI) vwCl [(qM, .inr (4, [.int 0, .int (nI w), .int (nI h), .int (nI n), .ref mP, .int mb, .int mg, .int tk, .ref mC, .ref mN, .ref mD])), (mP, .inl (cI, 7180, .inl (upd (upd (upd (upd g (7168 + 4 * kk) x) (7168 + 4 * kk + 1) y) (7168 + 4 * kk + 2) rr) (7168 + 4 * kk + 3) lt)))] H := hP
                        have hD : va_D A [(qM, .inr (4, [.int 0, .int (nI w), .int (nI h), .int (nI n), .ref mP, .int mb, .int mg, .int tk, .ref mC, .ref mN, .ref mD])), (mP, .inl (cI, 7180, .inl (upd (upd (upd (upd g (7168 + 4 * kk) x) (7168 + 4 * kk + 1) y) (7168 + 4 * kk + 2) rr) (7168 + 4 * kk + 3) lt)))] := hD
                        refine lv_iload hx hb dX4_corner_139 (lv_at hl 0 rfl) ?_
                        have hP9 := hP.sub (ws' := [(qM, .inr (4, [.int 0, .int (nI w), .int (nI h), .int (nI n), .ref mP, .int mb, .int mg, .int tk, .ref mC, .ref mN, .ref mD])), (mP, .inl (cI, 7180, .inl (upd (upd (upd (upd g (7168 + 4 * kk) x) (7168 + 4 * kk + 1) y) (7168 + 4 * kk + 2) rr) (7168 + 4 * kk + 3) lt)))]) [0, 1] rfl
                        have hD9 := hD.sub (ws' := [(qM, .inr (4, [.int 0, .int (nI w), .int (nI h), .int (nI n), .ref mP, .int mb, .int mg, .int tk, .ref mC, .ref mN, .ref mD])), (mP, .inl (cI, 7180, .inl (upd (upd (upd (upd g (7168 + 4 * kk) x) (7168 + 4 * kk + 1) y) (7168 + 4 * kk + 2) rr) (7168 + 4 * kk + 3) lt)))]) [0, 1] (by decide) rfl
                        exact td_rwi (upd (upd (upd (upd g (7168 + 4 * kk) x) (7168 + 4 * kk + 1) y) (7168 + 4 * kk + 2) rr) (7168 + 4 * kk + 3) lt) hx hb hr rfl hlocks hK (Or.inl ⟨rfl, hok, kk, by omega, ekk, rfl⟩) hP9 hD9 hS dX4_corner_141
set_option maxHeartbeats 4000000 in
set_option maxRecDepth 100000 in
/-- add -/
theorem tm_add (l : Launch) (dC : Nat → ClassId) (dI : Nat → Nat → Nat) (cI cJ cZ : ClassId) (sz : Nat) (qM : Nat) (mP : Nat) (mC : Nat) (mN : Nat) (mD : Nat) (w : Nat) (h : Nat) (n : Nat) (mb : Int32) (mg : Int32) (tk : Int32) (g : Nat → Int32) (tn : Int32) (cv : Int32) (hn : n ≤ 512) : Met l yX4_add wsX4_add ({ frames := 2, cells := 0, slots := 0, locals := 47 }) (td_WP (dC, dI) vwCl (td_T cI cJ cZ) td_nl [(qM, .inr (4, [.int 0, .int (nI w), .int (nI h), .int (nI n), .ref mP, .int mb, .int mg, .int tk, .ref mC, .ref mN, .ref mD])), (mP, .inl (cI, 7180, .inl g))] sz [.ref qM, .int tn, .int cv]) (va_Qi (S := (Nat → Int32) × Nat) (fun r u => (r = -1 ∧ ¬ ((0 ≤ tn ∧ tn < 16777216) ∧ (0 ≤ cv ∧ cv ≤ 255) ∧ 0 < td_AL g 7168 ∧ n < 512) ∧ u.1 = g ∧ u.2 = n) ∨ (r = nI n ∧ ((0 ≤ tn ∧ tn < 16777216) ∧ (0 ≤ cv ∧ cv ≤ 255) ∧ 0 < td_AL g 7168 ∧ n < 512) ∧ u.2 = n + 1 ∧ td_added g n tn cv u.1)) (td_B (dC, dI) vwCl (td_T cI cJ cZ) (va_A [(qM, .inr (4, [.int 0, .int (nI w), .int (nI h), .int (nI n), .ref mP, .int mb, .int mg, .int tk, .ref mC, .ref mN, .ref mD])), (mP, .inl (cI, 7180, .inl g))] sz) (fun (u : (Nat → Int32) × Nat) => [(qM, .inr (4, [.int 0, .int (nI w), .int (nI h), .int (nI u.2), .ref mP, .int mb, .int mg, .int tk, .ref mC, .ref mN, .ref mD])), (mP, .inl (cI, 7180, .inl u.1))])) (va_A [(qM, .inr (4, [.int 0, .int (nI w), .int (nI h), .int (nI n), .ref mP, .int mb, .int mg, .int tk, .ref mC, .ref mN, .ref mD])), (mP, .inl (cI, 7180, .inl g))] sz)) 0 0 (va_A [(qM, .inr (4, [.int 0, .int (nI w), .int (nI h), .int (nI n), .ref mP, .int mb, .int mg, .int tk, .ref mC, .ref mN, .ref mD])), (mP, .inl (cI, 7180, .inl g))] sz) := by
  refine Met.ofW (cc := cX4_add) (maxL := 4) (ret := (some .int)) (by decide) rfl ?_
  intro p e s m args below meth c s₁ B hml hv
  obtain ⟨rfl, hsz, hP, hK, hZ, hD0⟩ := hv
  have hx := B.exec
  have hb := B.bytes
  have hr := B.returns
  have hts := atoms_spec (ws := wsX4_add) B.pre
  have hown : s.vm.findClass RX4 = some m.cls := findClass_of_methodNamed B.named
  have hlocks := B.notSynchronized
  subst hsz
  have hD := hD0.self (sz := s.heap.size)
  generalize hAe : va_A [(qM, .inr (4, [.int 0, .int (nI w), .int (nI h), .int (nI n), .ref mP, .int mb, .int mg, .int tk, .ref mC, .ref mN, .ref mD])), (mP, .inl (cI, 7180, .inl g))] s.heap.size = A at hD ⊢
  have hA : ∀ q : Nat, s.heap.size ≤ q → A q := fun q h => by rw [← hAe]; exact Or.inr h
  have hS : va_S A s.heap s.heap [] := va_S.rf
  have hP : va_P (dC, dI) vwCl [(qM, .inr (4, [.int 0, .int (nI w), .int (nI h), .int (nI n), .ref mP, .int mb, .int mg, .int tk, .ref mC, .ref mN, .ref mD])), (mP, .inl (cI, 7180, .inl g))] s.heap := hP
  have hl := lv_entry ([.ref qM, .int tn, .int cv]) (n := 4) (Nat.le_of_ble_eq_true rfl)
  rw [lg_entry_eq]
  generalize (lg_sl ([.ref qM, .int tn, .int cv]) ++ List.replicate (4 - (lg_sl ([.ref qM, .int tn, .int cv])).length) Slot.unset).toArray = ls at hl ⊢
  have hl : lv_has ls 4 [(0, .ref qM), (1, .int tn), (2, .int cv)] := hl
  refine lv_aload_n hx hb dX4_add_0 rfl (lv_at hl 0 rfl) ?_
  refine lv_iconst (v := 0) hx hb dX4_add_1 (by decide) ?_
  refine va_put (D := (dC, dI)) (ci := 4) (v := .int 0) (ty := .int) (C := RX4) (T := TX4) (N := 11) hx hb hts td_fX4 tyX4 tyX4_ok nmX4 hown hK hP hD hS 0 rfl rfl 0 (by decide) (hts (.fieldLink RX4 30 "TileDeskModel" "thrown" "I") (td_i11 (List.mem_of_getElem? (i := 23) rfl))) (fun _ h9 => h9) rfl (by decide +kernel) rfl rfl (Nat.le_of_ble_eq_true rfl) dX4_add_2 (fun H locs hP hD hS => ?_)
  have hP : va_P (dC, dI) vwCl [(qM, .inr (4, [.int 0, .int (nI w), .int (nI h), .int (nI n), .ref mP, .int mb, .int mg, .int tk, .ref mC, .ref mN, .ref mD])), (mP, .inl (cI, 7180, .inl g))] H := hP
  have hD : va_D A [(qM, .inr (4, [.int 0, .int (nI w), .int (nI h), .int (nI n), .ref mP, .int mb, .int mg, .int tk, .ref mC, .ref mN, .ref mD])), (mP, .inl (cI, 7180, .inl g))] := hD
  refine lv_aload_n hx hb dX4_add_5 rfl (lv_at hl 0 rfl) ?_
  refine va_get (D := (dC, dI)) (ci := 4) (v := .int (nI n)) (C := RX4) (T := TX4) (N := 11) hx hb hts td_fX4 hown hK hP 0 rfl rfl 3 (by decide) (hts (.fieldLink RX4 40 "TileDeskModel" "many" "I") (td_i12 (List.mem_of_getElem? (i := 2) rfl))) (fun _ h9 => h9) rfl dX4_add_6 ?_
  refine lv_sipush (v := 512) hx hb dX4_add_9 (by decide) ?_
  refine lv_icmp_eq (tgt := 45) hx hb dX4_add_12 (by decide) (fun c12 => ?_) (fun c12 => ?_)
  · have hn5 : n = 512 := (nI_eq (a := n) (b := 512) (by omega) (by decide)).mp c12
    refine lv_iconst (v := (-1)) hx hb dX4_add_45 (by decide) ?_
    have hP9 := hP.sub (ws' := [(qM, .inr (4, [.int 0, .int (nI w), .int (nI h), .int (nI n), .ref mP, .int mb, .int mg, .int tk, .ref mC, .ref mN, .ref mD])), (mP, .inl (cI, 7180, .inl g))]) [0, 1] rfl
    have hD9 := hD.sub (ws' := [(qM, .inr (4, [.int 0, .int (nI w), .int (nI h), .int (nI n), .ref mP, .int mb, .int mg, .int tk, .ref mC, .ref mN, .ref mD])), (mP, .inl (cI, 7180, .inl g))]) [0, 1] (by decide) rfl
    exact td_rwi (g, n) hx hb hr rfl hlocks hK (Or.inl ⟨rfl, fun z => by omega, rfl, rfl⟩) hP9 hD9 hS dX4_add_46
  · have hn5 : n < 512 := by rcases Nat.lt_or_ge n 512 with z | z; exact z; exact absurd (congrArg nI (show n = 512 by omega)) c12
    refine lv_aload_n hx hb dX4_add_15 rfl (lv_at hl 0 rfl) ?_
    refine lv_sipush (v := 7168) hx hb dX4_add_16 (by decide) ?_
    refine td_csl (va_runV (As := [.int 7168]) (rest := []) ⟨hx, hb, hml, hown, hts⟩ (tm_area l dC dI cI cJ cZ qM mP mC mN mD w h n mb mg tk g 7168 (by omega)) (cwV 1 hts (td_gV (td_i12 (List.mem_of_getElem? (i := 20) rfl)) (td_i12 (List.mem_of_getElem? (i := 21) rfl)) (td_i15 (List.mem_of_getElem? (i := 16) rfl)) (td_i1 (List.mem_of_getElem? (i := 6) rfl)) (td_i12 (List.mem_of_getElem? (i := 22) rfl))) rfl rfl rfl (by decide +kernel) ⟨(Nat.le_of_ble_eq_true rfl), (Nat.le_of_ble_eq_true rfl)⟩) (td_pRV hK hZ hP [0, 1] rfl (va_recv hK hP (ci := 4) (q0 := 0) rfl rfl)) rfl rfl hl.1 rfl (lv_room (Nat.le_of_ble_eq_true rfl)) dX4_add_19 ⟨Nat.zero_le _, Nat.zero_le _⟩) ?_
    refine lv_lconst (v := 0) hx hb dX4_add_22 (by decide) ?_
    refine W.lcmp hx hb dX4_add_23 ?_
    refine td_lle (tgt := 45) hx hb dX4_add_24 (by decide) (fun c24 => ?_) (fun c24 => ?_)
    · refine lv_iconst (v := (-1)) hx hb dX4_add_45 (by decide) ?_
      have hP9 := hP.sub (ws' := [(qM, .inr (4, [.int 0, .int (nI w), .int (nI h), .int (nI n), .ref mP, .int mb, .int mg, .int tk, .ref mC, .ref mN, .ref mD])), (mP, .inl (cI, 7180, .inl g))]) [0, 1] rfl
      have hD9 := hD.sub (ws' := [(qM, .inr (4, [.int 0, .int (nI w), .int (nI h), .int (nI n), .ref mP, .int mb, .int mg, .int tk, .ref mC, .ref mN, .ref mD])), (mP, .inl (cI, 7180, .inl g))]) [0, 1] (by decide) rfl
      exact td_rwi (g, n) hx hb hr rfl hlocks hK (Or.inl ⟨rfl, fun z => absurd z.2.2.1 (Int64.not_lt.mpr c24), rfl, rfl⟩) hP9 hD9 hS dX4_add_46
    · refine lv_iload_n hx hb dX4_add_27 rfl (lv_at hl 1 rfl) ?_
      refine td_csi (va_runS (As := [.int tn]) (rest := []) ⟨hx, hb, hml, hown, hts⟩ (tm_isColour l dC dI cI cJ cZ tn) (va_cwS 1 hts (td_gS (td_i13 (List.mem_of_getElem? (i := 2) rfl)) (td_i13 (List.mem_of_getElem? (i := 3) rfl)) (td_i1 (List.mem_of_getElem? (i := 6) rfl)) (td_i13 (List.mem_of_getElem? (i := 4) rfl))) rfl rfl rfl (by decide +kernel) ⟨(Nat.le_of_ble_eq_true rfl), (Nat.le_of_ble_eq_true rfl)⟩) (td_pRS hK hZ hP [] rfl) rfl rfl hl.1 rfl (lv_room (Nat.le_of_ble_eq_true rfl)) dX4_add_28 ⟨Nat.zero_le _, Nat.zero_le _⟩) ?_
      refine td_ifeq (tgt := 45) hx hb dX4_add_31 (by decide) (fun c31 => ?_) (fun c31 => ?_)
      · refine lv_iconst (v := (-1)) hx hb dX4_add_45 (by decide) ?_
        have hP9 := hP.sub (ws' := [(qM, .inr (4, [.int 0, .int (nI w), .int (nI h), .int (nI n), .ref mP, .int mb, .int mg, .int tk, .ref mC, .ref mN, .ref mD])), (mP, .inl (cI, 7180, .inl g))]) [0, 1] rfl
        have hD9 := hD.sub (ws' := [(qM, .inr (4, [.int 0, .int (nI w), .int (nI h), .int (nI n), .ref mP, .int mb, .int mg, .int tk, .ref mC, .ref mN, .ref mD])), (mP, .inl (cI, 7180, .inl g))]) [0, 1] (by decide) rfl
        exact td_rwi (g, n) hx hb hr rfl hlocks hK (Or.inl ⟨rfl, fun z => c31 z.1, rfl, rfl⟩) hP9 hD9 hS dX4_add_46
      · refine lv_iload_n hx hb dX4_add_34 rfl (lv_at hl 2 rfl) ?_
        refine lv_if_lt (tgt := 45) hx hb dX4_add_35 (by decide) (fun c35 => ?_) (fun c35 => ?_)
        · refine lv_iconst (v := (-1)) hx hb dX4_add_45 (by decide) ?_
          have hP9 := hP.sub (ws' := [(qM, .inr (4, [.int 0, .int (nI w), .int (nI h), .int (nI n), .ref mP, .int mb, .int mg, .int tk, .ref mC, .ref mN, .ref mD])), (mP, .inl (cI, 7180, .inl g))]) [0, 1] rfl
          have hD9 := hD.sub (ws' := [(qM, .inr (4, [.int 0, .int (nI w), .int (nI h), .int (nI n), .ref mP, .int mb, .int mg, .int tk, .ref mC, .ref mN, .ref mD])), (mP, .inl (cI, 7180, .inl g))]) [0, 1] (by decide) rfl
          exact td_rwi (g, n) hx hb hr rfl hlocks hK (Or.inl ⟨rfl, fun z => absurd z.2.1.1 (Int32.not_le.mpr c35), rfl, rfl⟩) hP9 hD9 hS dX4_add_46
        · refine lv_iload_n hx hb dX4_add_38 rfl (lv_at hl 2 rfl) ?_
          refine lv_sipush (v := 255) hx hb dX4_add_39 (by decide) ?_
          refine lv_icmp_le (tgt := 47) hx hb dX4_add_42 (by decide) (fun c42 => ?_) (fun c42 => ?_)
          · refine lv_iconst (v := 0) hx hb dX4_add_47 (by decide) ?_
            refine lv_istore_n (lv' := [(3, .int 0), (0, .ref qM), (1, .int tn), (2, .int cv)]) hx hb dX4_add_48 rfl hl (by decide) rfl (fun ls hl => ?_)
            have lp49 : ∀ (n49 : Nat) (k : Nat) (gg : Nat → Int32), (k ≤ 12) → (∀ z, gg z = if 14 * n ≤ z ∧ z < 14 * n + k then g (7168 + (z - 14 * n)) else g z) → 12 - k < n49 → ∀ (H : Heap) (locs : List Loc), va_P (dC, dI) vwCl [(qM, .inr (4, [.int 0, .int (nI w), .int (nI h), .int (nI n), .ref mP, .int mb, .int mg, .int tk, .ref mC, .ref mN, .ref mD])), (mP, .inl (cI, 7180, .inl gg))] H → va_D A [(qM, .inr (4, [.int 0, .int (nI w), .int (nI h), .int (nI n), .ref mP, .int mb, .int mg, .int tk, .ref mC, .ref mN, .ref mD])), (mP, .inl (cI, 7180, .inl gg))] → va_S A s.heap H locs → ∀ ls : Array Slot, lv_has ls 4 [(0, .ref qM), (1, .int tn), (2, .int cv), (3, .int (nI k))] → W p l e (headSpec wsX4_add ({ frames := 2, cells := 0, slots := 0, locals := 47 })).room s m (([.ref qM, .int tn, .int cv] : List Value).toArray) below meth c H locs 0 0 (MQ below (va_Qi (S := (Nat → Int32) × Nat) (fun r u => (r = -1 ∧ ¬ ((0 ≤ tn ∧ tn < 16777216) ∧ (0 ≤ cv ∧ cv ≤ 255) ∧ 0 < td_AL g 7168 ∧ n < 512) ∧ u.1 = g ∧ u.2 = n) ∨ (r = nI n ∧ ((0 ≤ tn ∧ tn < 16777216) ∧ (0 ≤ cv ∧ cv ≤ 255) ∧ 0 < td_AL g 7168 ∧ n < 512) ∧ u.2 = n + 1 ∧ td_added g n tn cv u.1)) (td_B (dC, dI) vwCl (td_T cI cJ cZ) A (fun (u : (Nat → Int32) × Nat) => [(qM, .inr (4, [.int 0, .int (nI w), .int (nI h), .int (nI u.2), .ref mP, .int mb, .int mg, .int tk, .ref mC, .ref mN, .ref mD])), (mP, .inl (cI, 7180, .inl u.1))])) A) (([.ref qM, .int tn, .int cv] : List Value).toArray) s 0 0 A) (F0 m 49 ls []) := by
              intro n49
              induction n49 with
              | zero => intro k gg hk hcp hm; exact absurd hm (Nat.not_lt_zero _)
              | succ n49 ih49 =>
                intro k gg hk hcp hm49 H locs hP hD hS ls hl
                refine lv_iload_n hx hb dX4_add_49 rfl (lv_at hl 3 rfl) ?_
                refine lv_bipush (v := 12) hx hb dX4_add_50 (by decide) ?_
                refine lv_icmp_ge (tgt := 85) hx hb dX4_add_52 (by decide) (fun c52 => ?_) (fun c52 => ?_)
                · have hk12 : k = 12 := by have := (nI_leI (a := 12) (b := k) (by decide) (by omega)).mp c52; omega
                  subst hk12
                  refine lv_aload_n hx hb dX4_add_85 rfl (lv_at hl 0 rfl) ?_
                  refine va_get (D := (dC, dI)) (ci := 4) (v := .ref mP) (C := RX4) (T := TX4) (N := 11) hx hb hts td_fX4 hown hK hP 0 rfl rfl 4 (by decide) (hts (.fieldLink RX4 7 "TileDeskModel" "pieces" "[I") (td_i12 (List.mem_of_getElem? (i := 3) rfl))) (fun _ h9 => h9) rfl dX4_add_86 ?_
                  refine lv_bipush (v := 14) hx hb dX4_add_89 (by decide) ?_
                  refine lv_aload_n hx hb dX4_add_91 rfl (lv_at hl 0 rfl) ?_
                  refine va_get (D := (dC, dI)) (ci := 4) (v := .int (nI n)) (C := RX4) (T := TX4) (N := 11) hx hb hts td_fX4 hown hK hP 0 rfl rfl 3 (by decide) (hts (.fieldLink RX4 40 "TileDeskModel" "many" "I") (td_i12 (List.mem_of_getElem? (i := 2) rfl))) (fun _ h9 => h9) rfl dX4_add_92 ?_
                  refine lv_imul hx hb dX4_add_95 ?_
                  refine td_ti (nI (14 * n)) (pk_mul 14 n) ?_
                  refine lv_bipush (v := 12) hx hb dX4_add_96 (by decide) ?_
                  refine lv_iadd hx hb dX4_add_98 ?_
                  refine td_ti (nI (14 * n + 12)) (nI_add (14 * n) 12) ?_
                  refine lv_iload_n hx hb dX4_add_99 rfl (lv_at hl 1 rfl) ?_
                  refine td_iast hx hb hK hP hD hS 1 0 (14 * n + 12) rfl rfl rfl (by omega) (by decide) dX4_add_100 (fun H locs hP hD hS => ?_)
                  have hP : va_P (dC, dI) vwCl [(qM, .inr (4, [.int 0, .int (nI w), .int (nI h), .int (nI n), .ref mP, .int mb, .int mg, .int tk, .ref mC, .ref mN, .ref mD])), (mP, .inl (cI, 7180, .inl (upd gg (14 * n + 12) tn)))] H := hP
                  have hD : va_D A [(qM, .inr (4, [.int 0, .int (nI w), .int (nI h), .int (nI n), .ref mP, .int mb, .int mg, .int tk, .ref mC, .ref mN, .ref mD])), (mP, .inl (cI, 7180, .inl (upd gg (14 * n + 12) tn)))] := hD
                  refine lv_aload_n hx hb dX4_add_101 rfl (lv_at hl 0 rfl) ?_
                  refine va_get (D := (dC, dI)) (ci := 4) (v := .ref mP) (C := RX4) (T := TX4) (N := 11) hx hb hts td_fX4 hown hK hP 0 rfl rfl 4 (by decide) (hts (.fieldLink RX4 7 "TileDeskModel" "pieces" "[I") (td_i12 (List.mem_of_getElem? (i := 3) rfl))) (fun _ h9 => h9) rfl dX4_add_102 ?_
                  refine lv_bipush (v := 14) hx hb dX4_add_105 (by decide) ?_
                  refine lv_aload_n hx hb dX4_add_107 rfl (lv_at hl 0 rfl) ?_
                  refine va_get (D := (dC, dI)) (ci := 4) (v := .int (nI n)) (C := RX4) (T := TX4) (N := 11) hx hb hts td_fX4 hown hK hP 0 rfl rfl 3 (by decide) (hts (.fieldLink RX4 40 "TileDeskModel" "many" "I") (td_i12 (List.mem_of_getElem? (i := 2) rfl))) (fun _ h9 => h9) rfl dX4_add_108 ?_
                  refine lv_imul hx hb dX4_add_111 ?_
                  refine td_ti (nI (14 * n)) (pk_mul 14 n) ?_
                  refine lv_bipush (v := 13) hx hb dX4_add_112 (by decide) ?_
                  refine lv_iadd hx hb dX4_add_114 ?_
                  refine td_ti (nI (14 * n + 13)) (nI_add (14 * n) 13) ?_
                  refine lv_iload_n hx hb dX4_add_115 rfl (lv_at hl 2 rfl) ?_
                  refine td_iast hx hb hK hP hD hS 1 0 (14 * n + 13) rfl rfl rfl (by omega) (by decide) dX4_add_116 (fun H locs hP hD hS => ?_)
                  have hP : va_P (dC, dI) vwCl [(qM, .inr (4, [.int 0, .int (nI w), .int (nI h), .int (nI n), .ref mP, .int mb, .int mg, .int tk, .ref mC, .ref mN, .ref mD])), (mP, .inl (cI, 7180, .inl (upd (upd gg (14 * n + 12) tn) (14 * n + 13) cv)))] H := hP
                  have hD : va_D A [(qM, .inr (4, [.int 0, .int (nI w), .int (nI h), .int (nI n), .ref mP, .int mb, .int mg, .int tk, .ref mC, .ref mN, .ref mD])), (mP, .inl (cI, 7180, .inl (upd (upd gg (14 * n + 12) tn) (14 * n + 13) cv)))] := hD
                  refine lv_aload_n hx hb dX4_add_117 rfl (lv_at hl 0 rfl) ?_
                  refine lv_dup hx hb dX4_add_118 rfl ?_
                  refine va_get (D := (dC, dI)) (ci := 4) (v := .int (nI n)) (C := RX4) (T := TX4) (N := 11) hx hb hts td_fX4 hown hK hP 0 rfl rfl 3 (by decide) (hts (.fieldLink RX4 40 "TileDeskModel" "many" "I") (td_i12 (List.mem_of_getElem? (i := 2) rfl))) (fun _ h9 => h9) rfl dX4_add_119 ?_
                  refine lv_iconst (v := 1) hx hb dX4_add_122 (by decide) ?_
                  refine lv_iadd hx hb dX4_add_123 ?_
                  refine td_ti (nI (n + 1)) (nI_add n 1) ?_
                  refine va_put (D := (dC, dI)) (ci := 4) (v := .int (nI (n + 1))) (ty := .int) (C := RX4) (T := TX4) (N := 11) hx hb hts td_fX4 tyX4 tyX4_ok nmX4 hown hK hP hD hS 0 rfl rfl 3 (by decide) (hts (.fieldLink RX4 40 "TileDeskModel" "many" "I") (td_i12 (List.mem_of_getElem? (i := 2) rfl))) (fun _ h9 => h9) rfl (by decide +kernel) rfl rfl (Nat.le_of_ble_eq_true rfl) dX4_add_124 (fun H locs hP hD hS => ?_)
                  have hP : va_P (dC, dI) vwCl [(qM, .inr (4, [.int 0, .int (nI w), .int (nI h), .int (nI (n + 1)), .ref mP, .int mb, .int mg, .int tk, .ref mC, .ref mN, .ref mD])), (mP, .inl (cI, 7180, .inl (upd (upd gg (14 * n + 12) tn) (14 * n + 13) cv)))] H := hP
                  have hD : va_D A [(qM, .inr (4, [.int 0, .int (nI w), .int (nI h), .int (nI (n + 1)), .ref mP, .int mb, .int mg, .int tk, .ref mC, .ref mN, .ref mD])), (mP, .inl (cI, 7180, .inl (upd (upd gg (14 * n + 12) tn) (14 * n + 13) cv)))] := hD
                  refine lv_aload_n hx hb dX4_add_127 rfl (lv_at hl 0 rfl) ?_
                  refine va_get (D := (dC, dI)) (ci := 4) (v := .int (nI (n + 1))) (C := RX4) (T := TX4) (N := 11) hx hb hts td_fX4 hown hK hP 0 rfl rfl 3 (by decide) (hts (.fieldLink RX4 40 "TileDeskModel" "many" "I") (td_i12 (List.mem_of_getElem? (i := 2) rfl))) (fun _ h9 => h9) rfl dX4_add_128 ?_
                  refine lv_iconst (v := 1) hx hb dX4_add_131 (by decide) ?_
                  refine lv_isub hx hb dX4_add_132 ?_
                  refine td_ti (nI n) (nI_pred n) ?_
                  have hP9 := hP.sub (ws' := [(qM, .inr (4, [.int 0, .int (nI w), .int (nI h), .int (nI (n + 1)), .ref mP, .int mb, .int mg, .int tk, .ref mC, .ref mN, .ref mD])), (mP, .inl (cI, 7180, .inl (upd (upd gg (14 * n + 12) tn) (14 * n + 13) cv)))]) [0, 1] rfl
                  have hD9 := hD.sub (ws' := [(qM, .inr (4, [.int 0, .int (nI w), .int (nI h), .int (nI (n + 1)), .ref mP, .int mb, .int mg, .int tk, .ref mC, .ref mN, .ref mD])), (mP, .inl (cI, 7180, .inl (upd (upd gg (14 * n + 12) tn) (14 * n + 13) cv)))]) [0, 1] (by decide) rfl
                  exact td_rwi (upd (upd gg (14 * n + 12) tn) (14 * n + 13) cv, n + 1) hx hb hr rfl hlocks hK (Or.inr ⟨rfl, ⟨c31, ⟨Int32.not_lt.mp c35, c42⟩, Int64.not_le.mp c24, hn5⟩, rfl, td_addedof hn5 hcp⟩) hP9 hD9 hS dX4_add_133
                · have hk2 : k < 12 := by rcases Nat.lt_or_ge k 12 with z | z; exact z; exact absurd (nI_le z (by omega)) c52
                  refine lv_aload_n hx hb dX4_add_55 rfl (lv_at hl 0 rfl) ?_
                  refine va_get (D := (dC, dI)) (ci := 4) (v := .ref mP) (C := RX4) (T := TX4) (N := 11) hx hb hts td_fX4 hown hK hP 0 rfl rfl 4 (by decide) (hts (.fieldLink RX4 7 "TileDeskModel" "pieces" "[I") (td_i12 (List.mem_of_getElem? (i := 3) rfl))) (fun _ h9 => h9) rfl dX4_add_56 ?_
                  refine lv_bipush (v := 14) hx hb dX4_add_59 (by decide) ?_
                  refine lv_aload_n hx hb dX4_add_61 rfl (lv_at hl 0 rfl) ?_
                  refine va_get (D := (dC, dI)) (ci := 4) (v := .int (nI n)) (C := RX4) (T := TX4) (N := 11) hx hb hts td_fX4 hown hK hP 0 rfl rfl 3 (by decide) (hts (.fieldLink RX4 40 "TileDeskModel" "many" "I") (td_i12 (List.mem_of_getElem? (i := 2) rfl))) (fun _ h9 => h9) rfl dX4_add_62 ?_
                  refine lv_imul hx hb dX4_add_65 ?_
                  refine td_ti (nI (14 * n)) (pk_mul 14 n) ?_
                  refine lv_iload_n hx hb dX4_add_66 rfl (lv_at hl 3 rfl) ?_
                  refine lv_iadd hx hb dX4_add_67 ?_
                  refine td_ti (nI (14 * n + k)) (nI_add (14 * n) k) ?_
                  refine lv_aload_n hx hb dX4_add_68 rfl (lv_at hl 0 rfl) ?_
                  refine va_get (D := (dC, dI)) (ci := 4) (v := .ref mP) (C := RX4) (T := TX4) (N := 11) hx hb hts td_fX4 hown hK hP 0 rfl rfl 4 (by decide) (hts (.fieldLink RX4 7 "TileDeskModel" "pieces" "[I") (td_i12 (List.mem_of_getElem? (i := 3) rfl))) (fun _ h9 => h9) rfl dX4_add_69 ?_
                  refine lv_sipush (v := 7168) hx hb dX4_add_72 (by decide) ?_
                  refine lv_iload_n hx hb dX4_add_75 rfl (lv_at hl 3 rfl) ?_
                  refine lv_iadd hx hb dX4_add_76 ?_
                  refine td_ti (nI (7168 + k)) (nI_add 7168 k) ?_
                  refine td_iald hx hb hK hP 1 0 (7168 + k) rfl rfl rfl (by omega) (by decide) dX4_add_77 ?_
                  refine td_iast hx hb hK hP hD hS 1 0 (14 * n + k) rfl rfl rfl (by omega) (by decide) dX4_add_78 (fun H locs hP hD hS => ?_)
                  have hP : va_P (dC, dI) vwCl [(qM, .inr (4, [.int 0, .int (nI w), .int (nI h), .int (nI n), .ref mP, .int mb, .int mg, .int tk, .ref mC, .ref mN, .ref mD])), (mP, .inl (cI, 7180, .inl (upd gg (14 * n + k) (gg (7168 + k)))))] H := hP
                  have hD : va_D A [(qM, .inr (4, [.int 0, .int (nI w), .int (nI h), .int (nI n), .ref mP, .int mb, .int mg, .int tk, .ref mC, .ref mN, .ref mD])), (mP, .inl (cI, 7180, .inl (upd gg (14 * n + k) (gg (7168 + k)))))] := hD
                  refine lv_iinc (v := nI (k + 1)) (lv' := [(3, .int (nI (k + 1))), (0, .ref qM), (1, .int tn), (2, .int cv)]) hx hb dX4_add_79 hl (k := 3) rfl (nI_add k 1) (by decide) rfl (fun ls hl => ?_)
                  refine lv_goto (tgt := 49) hx hb dX4_add_82 (by decide) ?_
                  exact ih49 (k + 1) (upd gg (14 * n + k) (gg (7168 + k))) (by omega) (td_cpst hn5 hk2 hcp) (by omega) _ _ (hP.sub [0, 1] rfl) (hD.sub [0, 1] (by decide) rfl) hS ls (lv_sub hl [1, 2, 3, 0] rfl)
            exact lp49 ((12 - 0) + 1) 0 g (Nat.zero_le _) (fun z => by rw [if_neg (by omega)]) (Nat.lt_succ_self _) _ _ (hP.sub [0, 1] rfl) (hD.sub [0, 1] (by decide) rfl) hS ls (lv_sub hl [1, 2, 3, 0] rfl)
          · refine lv_iconst (v := (-1)) hx hb dX4_add_45 (by decide) ?_
            have hP9 := hP.sub (ws' := [(qM, .inr (4, [.int 0, .int (nI w), .int (nI h), .int (nI n), .ref mP, .int mb, .int mg, .int tk, .ref mC, .ref mN, .ref mD])), (mP, .inl (cI, 7180, .inl g))]) [0, 1] rfl
            have hD9 := hD.sub (ws' := [(qM, .inr (4, [.int 0, .int (nI w), .int (nI h), .int (nI n), .ref mP, .int mb, .int mg, .int tk, .ref mC, .ref mN, .ref mD])), (mP, .inl (cI, 7180, .inl g))]) [0, 1] (by decide) rfl
            exact td_rwi (g, n) hx hb hr rfl hlocks hK (Or.inl ⟨rfl, fun z => c42 z.2.1.2, rfl, rfl⟩) hP9 hD9 hS dX4_add_46
set_option maxHeartbeats 4000000 in
set_option maxRecDepth 100000 in
/-- tile -/
theorem tm_tile (l : Launch) (dC : Nat → ClassId) (dI : Nat → Nat → Nat) (cI cJ cZ : ClassId) (sz : Nat) (qM : Nat) (mP : Nat) (mC : Nat) (mN : Nat) (mD : Nat) (w : Nat) (h : Nat) (n : Nat) (mb : Int32) (mg : Int32) (tk : Int32) (fD : Nat → Int32) (k : Int32) (hw1 : 8 ≤ w) (hw2 : w ≤ 48) (hh1 : 8 ≤ h) (hh2 : h ≤ 48) : Met l yX4_tile wsX4_tile ({ frames := 2, cells := 0, slots := 0, locals := 40 }) (td_WP (dC, dI) vwCl (td_T cI cJ cZ) td_nl [(qM, .inr (4, [.int 0, .int (nI w), .int (nI h), .int (nI n), .ref mP, .int mb, .int mg, .int tk, .ref mC, .ref mN, .ref mD])), (mD, .inl (cZ, 36, .inl fD))] sz [.ref qM, .int k]) (va_Qi (S := (Nat → Int32)) (fun r u => (r = 0 ∧ u = fD ∧ (mg = 0 ∨ k < 0 ∨ nI ((w + 7) / 8 * ((h + 7) / 8)) ≤ k ∨ ∃ kk, kk < (w + 7) / 8 * ((h + 7) / 8) ∧ k = nI kk ∧ ¬ fD kk = 0)) ∨ (r = 1 ∧ ¬ mg = 0 ∧ ∃ kk, kk < (w + 7) / 8 * ((h + 7) / 8) ∧ k = nI kk ∧ fD kk = 0 ∧ u = upd fD kk 1)) (td_B (dC, dI) vwCl (td_T cI cJ cZ) (va_A [(qM, .inr (4, [.int 0, .int (nI w), .int (nI h), .int (nI n), .ref mP, .int mb, .int mg, .int tk, .ref mC, .ref mN, .ref mD])), (mD, .inl (cZ, 36, .inl fD))] sz) (fun (u : (Nat → Int32)) => [(qM, .inr (4, [.int 0, .int (nI w), .int (nI h), .int (nI n), .ref mP, .int mb, .int mg, .int tk, .ref mC, .ref mN, .ref mD])), (mD, .inl (cZ, 36, .inl u))])) (va_A [(qM, .inr (4, [.int 0, .int (nI w), .int (nI h), .int (nI n), .ref mP, .int mb, .int mg, .int tk, .ref mC, .ref mN, .ref mD])), (mD, .inl (cZ, 36, .inl fD))] sz)) 0 0 (va_A [(qM, .inr (4, [.int 0, .int (nI w), .int (nI h), .int (nI n), .ref mP, .int mb, .int mg, .int tk, .ref mC, .ref mN, .ref mD])), (mD, .inl (cZ, 36, .inl fD))] sz) := by
  refine Met.ofW (cc := cX4_tile) (maxL := 2) (ret := (some .boolean)) (by decide) rfl ?_
  intro p e s m args below meth c s₁ B hml hv
  obtain ⟨rfl, hsz, hP, hK, hZ, hD0⟩ := hv
  have hx := B.exec
  have hb := B.bytes
  have hr := B.returns
  have hts := atoms_spec (ws := wsX4_tile) B.pre
  have hown : s.vm.findClass RX4 = some m.cls := findClass_of_methodNamed B.named
  have hlocks := B.notSynchronized
  subst hsz
  have hD := hD0.self (sz := s.heap.size)
  generalize hAe : va_A [(qM, .inr (4, [.int 0, .int (nI w), .int (nI h), .int (nI n), .ref mP, .int mb, .int mg, .int tk, .ref mC, .ref mN, .ref mD])), (mD, .inl (cZ, 36, .inl fD))] s.heap.size = A at hD ⊢
  have hA : ∀ q : Nat, s.heap.size ≤ q → A q := fun q h => by rw [← hAe]; exact Or.inr h
  have hS : va_S A s.heap s.heap [] := va_S.rf
  have hP : va_P (dC, dI) vwCl [(qM, .inr (4, [.int 0, .int (nI w), .int (nI h), .int (nI n), .ref mP, .int mb, .int mg, .int tk, .ref mC, .ref mN, .ref mD])), (mD, .inl (cZ, 36, .inl fD))] s.heap := hP
  have hl := lv_entry ([.ref qM, .int k]) (n := 2) (Nat.le_of_ble_eq_true rfl)
  rw [lg_entry_eq]
  generalize (lg_sl ([.ref qM, .int k]) ++ List.replicate (2 - (lg_sl ([.ref qM, .int k])).length) Slot.unset).toArray = ls at hl ⊢
  have hl : lv_has ls 2 [(0, .ref qM), (1, .int k)] := hl
  have ht36 : (w + 7) / 8 * ((h + 7) / 8) ≤ 36 := td_tt (by omega) (by omega)
  refine lv_aload_n hx hb dX4_tile_0 rfl (lv_at hl 0 rfl) ?_
  refine lv_iconst (v := 0) hx hb dX4_tile_1 (by decide) ?_
  refine va_put (D := (dC, dI)) (ci := 4) (v := .int 0) (ty := .int) (C := RX4) (T := TX4) (N := 11) hx hb hts td_fX4 tyX4 tyX4_ok nmX4 hown hK hP hD hS 0 rfl rfl 0 (by decide) (hts (.fieldLink RX4 30 "TileDeskModel" "thrown" "I") (td_i11 (List.mem_of_getElem? (i := 23) rfl))) (fun _ h9 => h9) rfl (by decide +kernel) rfl rfl (Nat.le_of_ble_eq_true rfl) dX4_tile_2 (fun H locs hP hD hS => ?_)
  have hP : va_P (dC, dI) vwCl [(qM, .inr (4, [.int 0, .int (nI w), .int (nI h), .int (nI n), .ref mP, .int mb, .int mg, .int tk, .ref mC, .ref mN, .ref mD])), (mD, .inl (cZ, 36, .inl fD))] H := hP
  have hD : va_D A [(qM, .inr (4, [.int 0, .int (nI w), .int (nI h), .int (nI n), .ref mP, .int mb, .int mg, .int tk, .ref mC, .ref mN, .ref mD])), (mD, .inl (cZ, 36, .inl fD))] := hD
  refine lv_aload_n hx hb dX4_tile_5 rfl (lv_at hl 0 rfl) ?_
  refine va_get (D := (dC, dI)) (ci := 4) (v := .int mg) (C := RX4) (T := TX4) (N := 11) hx hb hts td_fX4 hown hK hP 0 rfl rfl 6 (by decide) (hts (.fieldLink RX4 76 "TileDeskModel" "begun" "Z") (td_i12 (List.mem_of_getElem? (i := 5) rfl))) (fun _ h9 => h9) rfl dX4_tile_6 ?_
  refine lv_if_eq (tgt := 33) hx hb dX4_tile_9 (by decide) (fun c4 => ?_) (fun c4 => ?_)
  · refine lv_iconst (v := 0) hx hb dX4_tile_33 (by decide) ?_
    have hP9 := hP.sub (ws' := [(qM, .inr (4, [.int 0, .int (nI w), .int (nI h), .int (nI n), .ref mP, .int mb, .int mg, .int tk, .ref mC, .ref mN, .ref mD])), (mD, .inl (cZ, 36, .inl fD))]) [0, 1] rfl
    have hD9 := hD.sub (ws' := [(qM, .inr (4, [.int 0, .int (nI w), .int (nI h), .int (nI n), .ref mP, .int mb, .int mg, .int tk, .ref mC, .ref mN, .ref mD])), (mD, .inl (cZ, 36, .inl fD))]) [0, 1] (by decide) rfl
    exact td_rwi fD hx hb hr rfl hlocks hK (Or.inl ⟨rfl, rfl, Or.inl c4⟩) hP9 hD9 hS dX4_tile_34
  · refine lv_iload_n hx hb dX4_tile_12 rfl (lv_at hl 1 rfl) ?_
    refine lv_if_lt (tgt := 33) hx hb dX4_tile_13 (by decide) (fun c8 => ?_) (fun c8 => ?_)
    · refine lv_iconst (v := 0) hx hb dX4_tile_33 (by decide) ?_
      have hP9 := hP.sub (ws' := [(qM, .inr (4, [.int 0, .int (nI w), .int (nI h), .int (nI n), .ref mP, .int mb, .int mg, .int tk, .ref mC, .ref mN, .ref mD])), (mD, .inl (cZ, 36, .inl fD))]) [0, 1] rfl
      have hD9 := hD.sub (ws' := [(qM, .inr (4, [.int 0, .int (nI w), .int (nI h), .int (nI n), .ref mP, .int mb, .int mg, .int tk, .ref mC, .ref mN, .ref mD])), (mD, .inl (cZ, 36, .inl fD))]) [0, 1] (by decide) rfl
      exact td_rwi fD hx hb hr rfl hlocks hK (Or.inl ⟨rfl, rfl, Or.inr (Or.inl c8)⟩) hP9 hD9 hS dX4_tile_34
    · refine lv_iload_n hx hb dX4_tile_16 rfl (lv_at hl 1 rfl) ?_
      refine lv_aload_n hx hb dX4_tile_17 rfl (lv_at hl 0 rfl) ?_
      refine td_csi (va_runV (As := []) (rest := [.int k]) ⟨hx, hb, hml, hown, hts⟩ (tm_tiles l dC dI cI cJ cZ qM mP mC mN mD w h n mb mg tk hw2 hh2) (cwV 0 hts (td_gV (td_i14 (List.mem_of_getElem? (i := 9) rfl)) (td_i14 (List.mem_of_getElem? (i := 10) rfl)) (td_i15 (List.mem_of_getElem? (i := 20) rfl)) (td_i1 (List.mem_of_getElem? (i := 6) rfl)) (td_i14 (List.mem_of_getElem? (i := 11) rfl))) rfl rfl rfl (by decide +kernel) ⟨(Nat.le_of_ble_eq_true rfl), (Nat.le_of_ble_eq_true rfl)⟩) (td_pRV hK hZ hP [0] rfl (va_recv hK hP (ci := 4) (q0 := 0) rfl rfl)) rfl rfl hl.1 rfl (lv_room (Nat.le_of_ble_eq_true rfl)) dX4_tile_18 ⟨Nat.zero_le _, Nat.zero_le _⟩) ?_
      refine lv_icmp_ge (tgt := 33) hx hb dX4_tile_21 (by decide) (fun c17 => ?_) (fun c17 => ?_)
      · refine lv_iconst (v := 0) hx hb dX4_tile_33 (by decide) ?_
        have hP9 := hP.sub (ws' := [(qM, .inr (4, [.int 0, .int (nI w), .int (nI h), .int (nI n), .ref mP, .int mb, .int mg, .int tk, .ref mC, .ref mN, .ref mD])), (mD, .inl (cZ, 36, .inl fD))]) [0, 1] rfl
        have hD9 := hD.sub (ws' := [(qM, .inr (4, [.int 0, .int (nI w), .int (nI h), .int (nI n), .ref mP, .int mb, .int mg, .int tk, .ref mC, .ref mN, .ref mD])), (mD, .inl (cZ, 36, .inl fD))]) [0, 1] (by decide) rfl
        exact td_rwi fD hx hb hr rfl hlocks hK (Or.inl ⟨rfl, rfl, Or.inr (Or.inr (Or.inl c17))⟩) hP9 hD9 hS dX4_tile_34
      · obtain ⟨kk, hkk, ekk⟩ := td_idx c8 c17 (by omega)
        refine lv_aload_n hx hb dX4_tile_24 rfl (lv_at hl 0 rfl) ?_
        refine va_get (D := (dC, dI)) (ci := 4) (v := .ref mD) (C := RX4) (T := TX4) (N := 11) hx hb hts td_fX4 hown hK hP 0 rfl rfl 10 (by decide) (hts (.fieldLink RX4 19 "TileDeskModel" "done" "[Z") (td_i12 (List.mem_of_getElem? (i := 9) rfl))) (fun _ h9 => h9) rfl dX4_tile_25 ?_
        refine lv_iload_n hx hb dX4_tile_28 rfl (lv_at hl 1 rfl) ?_
        refine td_zald hx hb hK hP 1 2 kk rfl rfl ekk (by omega) (by decide) dX4_tile_29 ?_
        refine lv_if_eq (tgt := 35) hx hb dX4_tile_30 (by decide) (fun c26 => ?_) (fun c26 => ?_)
        · refine lv_aload_n hx hb dX4_tile_35 rfl (lv_at hl 0 rfl) ?_
          refine va_get (D := (dC, dI)) (ci := 4) (v := .ref mD) (C := RX4) (T := TX4) (N := 11) hx hb hts td_fX4 hown hK hP 0 rfl rfl 10 (by decide) (hts (.fieldLink RX4 19 "TileDeskModel" "done" "[Z") (td_i12 (List.mem_of_getElem? (i := 9) rfl))) (fun _ h9 => h9) rfl dX4_tile_36 ?_
          refine lv_iload_n hx hb dX4_tile_39 rfl (lv_at hl 1 rfl) ?_
          refine lv_iconst (v := 1) hx hb dX4_tile_40 (by decide) ?_
          refine td_zast hx hb hK hP hD hS 1 2 kk rfl rfl ekk (by omega) (by decide) rfl dX4_tile_41 (fun H locs hP hD hS => ?_)
          have hP : va_P (dC, dI) vwCl [(qM, .inr (4, [.int 0, .int (nI w), .int (nI h), .int (nI n), .ref mP, .int mb, .int mg, .int tk, .ref mC, .ref mN, .ref mD])), (mD, .inl (cZ, 36, .inl (upd fD kk 1)))] H := hP
          have hD : va_D A [(qM, .inr (4, [.int 0, .int (nI w), .int (nI h), .int (nI n), .ref mP, .int mb, .int mg, .int tk, .ref mC, .ref mN, .ref mD])), (mD, .inl (cZ, 36, .inl (upd fD kk 1)))] := hD
          refine lv_iconst (v := 1) hx hb dX4_tile_42 (by decide) ?_
          have hP9 := hP.sub (ws' := [(qM, .inr (4, [.int 0, .int (nI w), .int (nI h), .int (nI n), .ref mP, .int mb, .int mg, .int tk, .ref mC, .ref mN, .ref mD])), (mD, .inl (cZ, 36, .inl (upd fD kk 1)))]) [0, 1] rfl
          have hD9 := hD.sub (ws' := [(qM, .inr (4, [.int 0, .int (nI w), .int (nI h), .int (nI n), .ref mP, .int mb, .int mg, .int tk, .ref mC, .ref mN, .ref mD])), (mD, .inl (cZ, 36, .inl (upd fD kk 1)))]) [0, 1] (by decide) rfl
          exact td_rwi (upd fD kk 1) hx hb hr rfl hlocks hK (Or.inr ⟨rfl, c4, kk, hkk, ekk, c26, rfl⟩) hP9 hD9 hS dX4_tile_43
        · refine lv_iconst (v := 0) hx hb dX4_tile_33 (by decide) ?_
          have hP9 := hP.sub (ws' := [(qM, .inr (4, [.int 0, .int (nI w), .int (nI h), .int (nI n), .ref mP, .int mb, .int mg, .int tk, .ref mC, .ref mN, .ref mD])), (mD, .inl (cZ, 36, .inl fD))]) [0, 1] rfl
          have hD9 := hD.sub (ws' := [(qM, .inr (4, [.int 0, .int (nI w), .int (nI h), .int (nI n), .ref mP, .int mb, .int mg, .int tk, .ref mC, .ref mN, .ref mD])), (mD, .inl (cZ, 36, .inl fD))]) [0, 1] (by decide) rfl
          exact td_rwi fD hx hb hr rfl hlocks hK (Or.inl ⟨rfl, rfl, Or.inr (Or.inr (Or.inr ⟨kk, hkk, ekk, c26⟩))⟩) hP9 hD9 hS dX4_tile_34
set_option maxHeartbeats 4000000 in
set_option maxRecDepth 100000 in
/-- isSeen -/
theorem tm_isSeen (l : Launch) (dC : Nat → ClassId) (dI : Nat → Nat → Nat) (cI cJ cZ : ClassId) (qM : Nat) (mP : Nat) (mC : Nat) (mN : Nat) (mD : Nat) (w : Nat) (h : Nat) (n : Nat) (mb : Int32) (mg : Int32) (tk : Int32) (fD : Nat → Int32) (x : Int32) (y : Int32) (hw1 : 8 ≤ w) (hw2 : w ≤ 48) (hh1 : 8 ≤ h) (hh2 : h ≤ 48) : Met l yX4_isSeen wsX4_isSeen ({ frames := 1, cells := 0, slots := 0, locals := 20 }) (td_RP (dC, dI) vwCl (td_T cI cJ cZ) td_nl [(qM, .inr (4, [.int 0, .int (nI w), .int (nI h), .int (nI n), .ref mP, .int mb, .int mg, .int tk, .ref mC, .ref mN, .ref mD])), (mD, .inl (cZ, 36, .inl fD))] [.ref qM, .int x, .int y]) (vp_Si (fun r => r = td_bz (¬ mg = 0 ∧ td_ms x y w h fD))) 0 0 (fun _ => False) := by
  refine Met.ofW (cc := cX4_isSeen) (maxL := 3) (ret := (some .boolean)) (by decide) rfl ?_
  intro p e s m args below meth c s₁ B hml hv
  obtain ⟨rfl, hP, hK, hZ⟩ := hv
  have hx := B.exec
  have hb := B.bytes
  have hr := B.returns
  have hts := atoms_spec (ws := wsX4_isSeen) B.pre
  have hown : s.vm.findClass RX4 = some m.cls := findClass_of_methodNamed B.named
  have hlocks := B.notSynchronized
  have hP : va_P (dC, dI) vwCl [(qM, .inr (4, [.int 0, .int (nI w), .int (nI h), .int (nI n), .ref mP, .int mb, .int mg, .int tk, .ref mC, .ref mN, .ref mD])), (mD, .inl (cZ, 36, .inl fD))] s.heap := hP
  have hl := lv_entry ([.ref qM, .int x, .int y]) (n := 3) (Nat.le_of_ble_eq_true rfl)
  rw [lg_entry_eq]
  generalize (lg_sl ([.ref qM, .int x, .int y]) ++ List.replicate (3 - (lg_sl ([.ref qM, .int x, .int y])).length) Slot.unset).toArray = ls at hl ⊢
  have hl : lv_has ls 3 [(0, .ref qM), (1, .int x), (2, .int y)] := hl
  have ht36 : (w + 7) / 8 * ((h + 7) / 8) ≤ 36 := td_tt (by omega) (by omega)
  refine lv_aload_n hx hb dX4_isSeen_0 rfl (lv_at hl 0 rfl) ?_
  refine va_get (D := (dC, dI)) (ci := 4) (v := .int mg) (C := RX4) (T := TX4) (N := 11) hx hb hts td_fX4 hown hK hP 0 rfl rfl 6 (by decide) (hts (.fieldLink RX4 76 "TileDeskModel" "begun" "Z") (td_i12 (List.mem_of_getElem? (i := 5) rfl))) (fun _ h9 => h9) rfl dX4_isSeen_1 ?_
  refine lv_if_eq (tgt := 57) hx hb dX4_isSeen_4 (by decide) (fun c4 => ?_) (fun c4 => ?_)
  · refine lv_iconst (v := 0) hx hb dX4_isSeen_57 (by decide) ?_
    exact td_rri hx hb hr rfl hlocks (by rw [td_bz0 (fun z => z.1 c4)]) dX4_isSeen_58
  · refine lv_iload_n hx hb dX4_isSeen_7 rfl (lv_at hl 1 rfl) ?_
    refine lv_if_lt (tgt := 57) hx hb dX4_isSeen_8 (by decide) (fun c8 => ?_) (fun c8 => ?_)
    · refine lv_iconst (v := 0) hx hb dX4_isSeen_57 (by decide) ?_
      exact td_rri hx hb hr rfl hlocks (by rw [td_bz0 (fun z => absurd z.2.1.1 (Int32.not_le.mpr c8))]) dX4_isSeen_58
    · refine lv_iload_n hx hb dX4_isSeen_11 rfl (lv_at hl 1 rfl) ?_
      refine lv_aload_n hx hb dX4_isSeen_12 rfl (lv_at hl 0 rfl) ?_
      refine va_get (D := (dC, dI)) (ci := 4) (v := .int (nI w)) (C := RX4) (T := TX4) (N := 11) hx hb hts td_fX4 hown hK hP 0 rfl rfl 1 (by decide) (hts (.fieldLink RX4 23 "TileDeskModel" "width" "I") (td_i12 (List.mem_of_getElem? (i := 0) rfl))) (fun _ h9 => h9) rfl dX4_isSeen_13 ?_
      refine lv_icmp_ge (tgt := 57) hx hb dX4_isSeen_16 (by decide) (fun c16 => ?_) (fun c16 => ?_)
      · refine lv_iconst (v := 0) hx hb dX4_isSeen_57 (by decide) ?_
        exact td_rri hx hb hr rfl hlocks (by rw [td_bz0 (fun z => absurd z.2.1.2 (Int32.not_lt.mpr c16))]) dX4_isSeen_58
      · obtain ⟨X, hX, eX⟩ := td_idx c8 c16 (by omega)
        refine lv_iload_n hx hb dX4_isSeen_19 rfl (lv_at hl 2 rfl) ?_
        refine lv_if_lt (tgt := 57) hx hb dX4_isSeen_20 (by decide) (fun c20 => ?_) (fun c20 => ?_)
        · refine lv_iconst (v := 0) hx hb dX4_isSeen_57 (by decide) ?_
          exact td_rri hx hb hr rfl hlocks (by rw [td_bz0 (fun z => absurd z.2.2.1.1 (Int32.not_le.mpr c20))]) dX4_isSeen_58
        · refine lv_iload_n hx hb dX4_isSeen_23 rfl (lv_at hl 2 rfl) ?_
          refine lv_aload_n hx hb dX4_isSeen_24 rfl (lv_at hl 0 rfl) ?_
          refine va_get (D := (dC, dI)) (ci := 4) (v := .int (nI h)) (C := RX4) (T := TX4) (N := 11) hx hb hts td_fX4 hown hK hP 0 rfl rfl 2 (by decide) (hts (.fieldLink RX4 27 "TileDeskModel" "height" "I") (td_i12 (List.mem_of_getElem? (i := 1) rfl))) (fun _ h9 => h9) rfl dX4_isSeen_25 ?_
          refine lv_icmp_ge (tgt := 57) hx hb dX4_isSeen_28 (by decide) (fun c28 => ?_) (fun c28 => ?_)
          · refine lv_iconst (v := 0) hx hb dX4_isSeen_57 (by decide) ?_
            exact td_rri hx hb hr rfl hlocks (by rw [td_bz0 (fun z => absurd z.2.2.1.2 (Int32.not_lt.mpr c28))]) dX4_isSeen_58
          · obtain ⟨Y, hY, eY⟩ := td_idx c20 c28 (by omega)
            refine lv_aload_n hx hb dX4_isSeen_31 rfl (lv_at hl 0 rfl) ?_
            refine va_get (D := (dC, dI)) (ci := 4) (v := .ref mD) (C := RX4) (T := TX4) (N := 11) hx hb hts td_fX4 hown hK hP 0 rfl rfl 10 (by decide) (hts (.fieldLink RX4 19 "TileDeskModel" "done" "[Z") (td_i12 (List.mem_of_getElem? (i := 9) rfl))) (fun _ h9 => h9) rfl dX4_isSeen_32 ?_
            refine lv_iload_n hx hb dX4_isSeen_35 rfl (lv_at hl 2 rfl) ?_
            refine lv_bipush (v := 8) hx hb dX4_isSeen_36 (by decide) ?_
            refine lv_idiv hx hb dX4_isSeen_38 (by decide) ?_
            refine td_ti (nI (Y / 8)) (td_div8 eY (by omega)) ?_
            refine lv_aload_n hx hb dX4_isSeen_39 rfl (lv_at hl 0 rfl) ?_
            refine td_csi (va_runV (As := []) (rest := [.int (nI (Y / 8)), .ref mD]) ⟨hx, hb, hml, hown, hts⟩ (tm_columns l dC dI cI cJ cZ qM mP mC mN mD w h n mb mg tk hw2) (cwV 0 hts (td_gV (td_i14 (List.mem_of_getElem? (i := 12) rfl)) (td_i14 (List.mem_of_getElem? (i := 13) rfl)) (td_i15 (List.mem_of_getElem? (i := 21) rfl)) (td_i1 (List.mem_of_getElem? (i := 6) rfl)) (td_i14 (List.mem_of_getElem? (i := 14) rfl))) rfl rfl rfl (by decide +kernel) ⟨(Nat.le_of_ble_eq_true rfl), (Nat.le_of_ble_eq_true rfl)⟩) (td_pRV hK hZ hP [0] rfl (va_recv hK hP (ci := 4) (q0 := 0) rfl rfl)) rfl rfl hl.1 rfl (lv_room (Nat.le_of_ble_eq_true rfl)) dX4_isSeen_40 ⟨Nat.zero_le _, Nat.zero_le _⟩) ?_
            refine lv_imul hx hb dX4_isSeen_43 ?_
            refine td_ti (nI ((Y / 8) * ((w + 7) / 8))) (pk_mul (Y / 8) ((w + 7) / 8)) ?_
            refine lv_iload_n hx hb dX4_isSeen_44 rfl (lv_at hl 1 rfl) ?_
            refine lv_bipush (v := 8) hx hb dX4_isSeen_45 (by decide) ?_
            refine lv_idiv hx hb dX4_isSeen_47 (by decide) ?_
            refine td_ti (nI (X / 8)) (td_div8 eX (by omega)) ?_
            refine lv_iadd hx hb dX4_isSeen_48 ?_
            refine td_ti (nI ((Y / 8) * ((w + 7) / 8) + (X / 8))) (nI_add ((Y / 8) * ((w + 7) / 8)) (X / 8)) ?_
            refine td_zald hx hb hK hP 1 2 ((Y / 8) * ((w + 7) / 8) + (X / 8)) rfl rfl rfl (Nat.lt_of_lt_of_le (td_tix (a := Y / 8) (b := X / 8) (ta := (w + 7) / 8) (th := (h + 7) / 8) (by omega) (by omega)) ht36) (by decide) dX4_isSeen_49 ?_
            refine lv_if_eq (tgt := 57) hx hb dX4_isSeen_50 (by decide) (fun c50 => ?_) (fun c50 => ?_)
            · refine lv_iconst (v := 0) hx hb dX4_isSeen_57 (by decide) ?_
              exact td_rri hx hb hr rfl hlocks (by rw [td_bz0 (fun z => z.2.2.2 (by rw [td_tn eX (by omega), td_tn eY (by omega)]; exact c50))]) dX4_isSeen_58
            · refine lv_iconst (v := 1) hx hb dX4_isSeen_53 (by decide) ?_
              refine lv_goto (tgt := 58) hx hb dX4_isSeen_54 (by decide) ?_
              exact td_rri hx hb hr rfl hlocks (by rw [td_bz1 (show _ ∧ td_ms x y w h fD from ⟨c4, ⟨Int32.not_lt.mp c8, Int32.not_le.mp c16⟩, ⟨Int32.not_lt.mp c20, Int32.not_le.mp c28⟩, by rw [td_tn eX (by omega), td_tn eY (by omega)]; exact c50⟩)]) dX4_isSeen_58
set_option maxHeartbeats 4000000 in
set_option maxRecDepth 100000 in
/-- pixel -/
theorem tm_pixel (l : Launch) (dC : Nat → ClassId) (dI : Nat → Nat → Nat) (cI cJ cZ : ClassId) (sz : Nat) (qM : Nat) (mP : Nat) (mC : Nat) (mN : Nat) (mD : Nat) (w : Nat) (h : Nat) (n : Nat) (mb : Int32) (mg : Int32) (tk : Int32) (fc : Nat → Int32) (fD : Nat → Int32) (x : Int32) (y : Int32) (hw1 : 8 ≤ w) (hw2 : w ≤ 48) (hh1 : 8 ≤ h) (hh2 : h ≤ 48) : Met l yX4_pixel wsX4_pixel ({ frames := 2, cells := 0, slots := 0, locals := 42 }) (td_WP (dC, dI) vwCl (td_T cI cJ cZ) td_nl [(qM, .inr (4, [.int 0, .int (nI w), .int (nI h), .int (nI n), .ref mP, .int mb, .int mg, .int tk, .ref mC, .ref mN, .ref mD])), (mC, .inl (cI, 2304, .inl fc)), (mD, .inl (cZ, 36, .inl fD))] sz [.ref qM, .int x, .int y]) (va_Qi (S := Unit) (fun r u => r = if ¬ mg = 0 ∧ td_ms x y w h fD then fc (48 * y.toInt.toNat + x.toInt.toNat) else -1) (td_B (dC, dI) vwCl (td_T cI cJ cZ) (va_A [(qM, .inr (4, [.int 0, .int (nI w), .int (nI h), .int (nI n), .ref mP, .int mb, .int mg, .int tk, .ref mC, .ref mN, .ref mD])), (mC, .inl (cI, 2304, .inl fc)), (mD, .inl (cZ, 36, .inl fD))] sz) (fun (u : Unit) => [(qM, .inr (4, [.int 0, .int (nI w), .int (nI h), .int (nI n), .ref mP, .int mb, .int mg, .int tk, .ref mC, .ref mN, .ref mD])), (mC, .inl (cI, 2304, .inl fc)), (mD, .inl (cZ, 36, .inl fD))])) (va_A [(qM, .inr (4, [.int 0, .int (nI w), .int (nI h), .int (nI n), .ref mP, .int mb, .int mg, .int tk, .ref mC, .ref mN, .ref mD])), (mC, .inl (cI, 2304, .inl fc)), (mD, .inl (cZ, 36, .inl fD))] sz)) 0 0 (va_A [(qM, .inr (4, [.int 0, .int (nI w), .int (nI h), .int (nI n), .ref mP, .int mb, .int mg, .int tk, .ref mC, .ref mN, .ref mD])), (mC, .inl (cI, 2304, .inl fc)), (mD, .inl (cZ, 36, .inl fD))] sz) := by
  refine Met.ofW (cc := cX4_pixel) (maxL := 3) (ret := (some .int)) (by decide) rfl ?_
  intro p e s m args below meth c s₁ B hml hv
  obtain ⟨rfl, hsz, hP, hK, hZ, hD0⟩ := hv
  have hx := B.exec
  have hb := B.bytes
  have hr := B.returns
  have hts := atoms_spec (ws := wsX4_pixel) B.pre
  have hown : s.vm.findClass RX4 = some m.cls := findClass_of_methodNamed B.named
  have hlocks := B.notSynchronized
  subst hsz
  have hD := hD0.self (sz := s.heap.size)
  generalize hAe : va_A [(qM, .inr (4, [.int 0, .int (nI w), .int (nI h), .int (nI n), .ref mP, .int mb, .int mg, .int tk, .ref mC, .ref mN, .ref mD])), (mC, .inl (cI, 2304, .inl fc)), (mD, .inl (cZ, 36, .inl fD))] s.heap.size = A at hD ⊢
  have hA : ∀ q : Nat, s.heap.size ≤ q → A q := fun q h => by rw [← hAe]; exact Or.inr h
  have hS : va_S A s.heap s.heap [] := va_S.rf
  have hP : va_P (dC, dI) vwCl [(qM, .inr (4, [.int 0, .int (nI w), .int (nI h), .int (nI n), .ref mP, .int mb, .int mg, .int tk, .ref mC, .ref mN, .ref mD])), (mC, .inl (cI, 2304, .inl fc)), (mD, .inl (cZ, 36, .inl fD))] s.heap := hP
  have hl := lv_entry ([.ref qM, .int x, .int y]) (n := 3) (Nat.le_of_ble_eq_true rfl)
  rw [lg_entry_eq]
  generalize (lg_sl ([.ref qM, .int x, .int y]) ++ List.replicate (3 - (lg_sl ([.ref qM, .int x, .int y])).length) Slot.unset).toArray = ls at hl ⊢
  have hl : lv_has ls 3 [(0, .ref qM), (1, .int x), (2, .int y)] := hl
  refine lv_aload_n hx hb dX4_pixel_0 rfl (lv_at hl 0 rfl) ?_
  refine lv_iconst (v := 0) hx hb dX4_pixel_1 (by decide) ?_
  refine va_put (D := (dC, dI)) (ci := 4) (v := .int 0) (ty := .int) (C := RX4) (T := TX4) (N := 11) hx hb hts td_fX4 tyX4 tyX4_ok nmX4 hown hK hP hD hS 0 rfl rfl 0 (by decide) (hts (.fieldLink RX4 30 "TileDeskModel" "thrown" "I") (td_i11 (List.mem_of_getElem? (i := 23) rfl))) (fun _ h9 => h9) rfl (by decide +kernel) rfl rfl (Nat.le_of_ble_eq_true rfl) dX4_pixel_2 (fun H locs hP hD hS => ?_)
  have hP : va_P (dC, dI) vwCl [(qM, .inr (4, [.int 0, .int (nI w), .int (nI h), .int (nI n), .ref mP, .int mb, .int mg, .int tk, .ref mC, .ref mN, .ref mD])), (mC, .inl (cI, 2304, .inl fc)), (mD, .inl (cZ, 36, .inl fD))] H := hP
  have hD : va_D A [(qM, .inr (4, [.int 0, .int (nI w), .int (nI h), .int (nI n), .ref mP, .int mb, .int mg, .int tk, .ref mC, .ref mN, .ref mD])), (mC, .inl (cI, 2304, .inl fc)), (mD, .inl (cZ, 36, .inl fD))] := hD
  refine lv_aload_n hx hb dX4_pixel_5 rfl (lv_at hl 0 rfl) ?_
  refine lv_iload_n hx hb dX4_pixel_6 rfl (lv_at hl 1 rfl) ?_
  refine lv_iload_n hx hb dX4_pixel_7 rfl (lv_at hl 2 rfl) ?_
  refine td_csi (va_runV (As := [.int x, .int y]) (rest := []) ⟨hx, hb, hml, hown, hts⟩ (tm_isSeen l dC dI cI cJ cZ qM mP mC mN mD w h n mb mg tk fD x y hw1 hw2 hh1 hh2) (cwV 2 hts (td_gV (td_i14 (List.mem_of_getElem? (i := 23) rfl)) (td_i15 (List.mem_of_getElem? (i := 0) rfl)) (td_i15 (List.mem_of_getElem? (i := 22) rfl)) (td_i1 (List.mem_of_getElem? (i := 6) rfl)) (td_i15 (List.mem_of_getElem? (i := 1) rfl))) rfl rfl rfl (by decide +kernel) ⟨(Nat.le_of_ble_eq_true rfl), (Nat.le_of_ble_eq_true rfl)⟩) (td_pRV hK hZ hP [0, 2] rfl (va_recv hK hP (ci := 4) (q0 := 0) rfl rfl)) rfl rfl hl.1 rfl (lv_room (Nat.le_of_ble_eq_true rfl)) dX4_pixel_8 ⟨Nat.zero_le _, Nat.zero_le _⟩) ?_
  refine td_ifeq (tgt := 28) hx hb dX4_pixel_11 (by decide) (fun c11 => ?_) (fun c11 => ?_)
  · refine lv_iconst (v := (-1)) hx hb dX4_pixel_28 (by decide) ?_
    have hP9 := hP.sub (ws' := [(qM, .inr (4, [.int 0, .int (nI w), .int (nI h), .int (nI n), .ref mP, .int mb, .int mg, .int tk, .ref mC, .ref mN, .ref mD])), (mC, .inl (cI, 2304, .inl fc)), (mD, .inl (cZ, 36, .inl fD))]) [0, 1, 2] rfl
    have hD9 := hD.sub (ws' := [(qM, .inr (4, [.int 0, .int (nI w), .int (nI h), .int (nI n), .ref mP, .int mb, .int mg, .int tk, .ref mC, .ref mN, .ref mD])), (mC, .inl (cI, 2304, .inl fc)), (mD, .inl (cZ, 36, .inl fD))]) [0, 1, 2] (by decide) rfl
    exact td_rwi () hx hb hr rfl hlocks hK (by rw [if_neg c11]) hP9 hD9 hS dX4_pixel_29
  · obtain ⟨X, hX, eX⟩ := td_idx (Int32.not_lt.mpr c11.2.1.1) (Int32.not_le.mpr c11.2.1.2) (by omega)
    obtain ⟨Y, hY, eY⟩ := td_idx (Int32.not_lt.mpr c11.2.2.1.1) (Int32.not_le.mpr c11.2.2.1.2) (by omega)
    refine lv_aload_n hx hb dX4_pixel_14 rfl (lv_at hl 0 rfl) ?_
    refine va_get (D := (dC, dI)) (ci := 4) (v := .ref mC) (C := RX4) (T := TX4) (N := 11) hx hb hts td_fX4 hown hK hP 0 rfl rfl 8 (by decide) (hts (.fieldLink RX4 13 "TileDeskModel" "colours" "[I") (td_i12 (List.mem_of_getElem? (i := 7) rfl))) (fun _ h9 => h9) rfl dX4_pixel_15 ?_
    refine lv_bipush (v := 48) hx hb dX4_pixel_18 (by decide) ?_
    refine lv_iload_n hx hb dX4_pixel_20 rfl (lv_at hl 2 rfl) ?_
    refine td_ti (nI Y) (eY) ?_
    refine lv_imul hx hb dX4_pixel_21 ?_
    refine td_ti (nI (48 * Y)) (pk_mul 48 Y) ?_
    refine lv_iload_n hx hb dX4_pixel_22 rfl (lv_at hl 1 rfl) ?_
    refine td_ti (nI X) (eX) ?_
    refine lv_iadd hx hb dX4_pixel_23 ?_
    refine td_ti (nI (48 * Y + X)) (nI_add (48 * Y) X) ?_
    refine td_iald hx hb hK hP 1 0 (48 * Y + X) rfl rfl rfl (by omega) (by decide) dX4_pixel_24 ?_
    refine lv_goto (tgt := 29) hx hb dX4_pixel_25 (by decide) ?_
    have hP9 := hP.sub (ws' := [(qM, .inr (4, [.int 0, .int (nI w), .int (nI h), .int (nI n), .ref mP, .int mb, .int mg, .int tk, .ref mC, .ref mN, .ref mD])), (mC, .inl (cI, 2304, .inl fc)), (mD, .inl (cZ, 36, .inl fD))]) [0, 1, 2] rfl
    have hD9 := hD.sub (ws' := [(qM, .inr (4, [.int 0, .int (nI w), .int (nI h), .int (nI n), .ref mP, .int mb, .int mg, .int tk, .ref mC, .ref mN, .ref mD])), (mC, .inl (cI, 2304, .inl fc)), (mD, .inl (cZ, 36, .inl fD))]) [0, 1, 2] (by decide) rfl
    exact td_rwi () hx hb hr rfl hlocks hK (by rw [if_pos c11, td_tn eX (by omega), td_tn eY (by omega)]) hP9 hD9 hS dX4_pixel_29
set_option maxHeartbeats 4000000 in
set_option maxRecDepth 100000 in
/-- nearness -/
theorem tm_nearness (l : Launch) (dC : Nat → ClassId) (dI : Nat → Nat → Nat) (cI cJ cZ : ClassId) (sz : Nat) (qM : Nat) (mP : Nat) (mC : Nat) (mN : Nat) (mD : Nat) (w : Nat) (h : Nat) (n : Nat) (mb : Int32) (mg : Int32) (tk : Int32) (fn : Nat → Int32) (fD : Nat → Int32) (x : Int32) (y : Int32) (hw1 : 8 ≤ w) (hw2 : w ≤ 48) (hh1 : 8 ≤ h) (hh2 : h ≤ 48) : Met l yX4_nearness wsX4_nearness ({ frames := 2, cells := 0, slots := 0, locals := 42 }) (td_WP (dC, dI) vwCl (td_T cI cJ cZ) td_nl [(qM, .inr (4, [.int 0, .int (nI w), .int (nI h), .int (nI n), .ref mP, .int mb, .int mg, .int tk, .ref mC, .ref mN, .ref mD])), (mN, .inl (cI, 2304, .inl fn)), (mD, .inl (cZ, 36, .inl fD))] sz [.ref qM, .int x, .int y]) (va_Qi (S := Unit) (fun r u => r = if ¬ mg = 0 ∧ td_ms x y w h fD then fn (48 * y.toInt.toNat + x.toInt.toNat) else -1) (td_B (dC, dI) vwCl (td_T cI cJ cZ) (va_A [(qM, .inr (4, [.int 0, .int (nI w), .int (nI h), .int (nI n), .ref mP, .int mb, .int mg, .int tk, .ref mC, .ref mN, .ref mD])), (mN, .inl (cI, 2304, .inl fn)), (mD, .inl (cZ, 36, .inl fD))] sz) (fun (u : Unit) => [(qM, .inr (4, [.int 0, .int (nI w), .int (nI h), .int (nI n), .ref mP, .int mb, .int mg, .int tk, .ref mC, .ref mN, .ref mD])), (mN, .inl (cI, 2304, .inl fn)), (mD, .inl (cZ, 36, .inl fD))])) (va_A [(qM, .inr (4, [.int 0, .int (nI w), .int (nI h), .int (nI n), .ref mP, .int mb, .int mg, .int tk, .ref mC, .ref mN, .ref mD])), (mN, .inl (cI, 2304, .inl fn)), (mD, .inl (cZ, 36, .inl fD))] sz)) 0 0 (va_A [(qM, .inr (4, [.int 0, .int (nI w), .int (nI h), .int (nI n), .ref mP, .int mb, .int mg, .int tk, .ref mC, .ref mN, .ref mD])), (mN, .inl (cI, 2304, .inl fn)), (mD, .inl (cZ, 36, .inl fD))] sz) := by
  refine Met.ofW (cc := cX4_nearness) (maxL := 3) (ret := (some .int)) (by decide) rfl ?_
  intro p e s m args below meth c s₁ B hml hv
  obtain ⟨rfl, hsz, hP, hK, hZ, hD0⟩ := hv
  have hx := B.exec
  have hb := B.bytes
  have hr := B.returns
  have hts := atoms_spec (ws := wsX4_nearness) B.pre
  have hown : s.vm.findClass RX4 = some m.cls := findClass_of_methodNamed B.named
  have hlocks := B.notSynchronized
  subst hsz
  have hD := hD0.self (sz := s.heap.size)
  generalize hAe : va_A [(qM, .inr (4, [.int 0, .int (nI w), .int (nI h), .int (nI n), .ref mP, .int mb, .int mg, .int tk, .ref mC, .ref mN, .ref mD])), (mN, .inl (cI, 2304, .inl fn)), (mD, .inl (cZ, 36, .inl fD))] s.heap.size = A at hD ⊢
  have hA : ∀ q : Nat, s.heap.size ≤ q → A q := fun q h => by rw [← hAe]; exact Or.inr h
  have hS : va_S A s.heap s.heap [] := va_S.rf
  have hP : va_P (dC, dI) vwCl [(qM, .inr (4, [.int 0, .int (nI w), .int (nI h), .int (nI n), .ref mP, .int mb, .int mg, .int tk, .ref mC, .ref mN, .ref mD])), (mN, .inl (cI, 2304, .inl fn)), (mD, .inl (cZ, 36, .inl fD))] s.heap := hP
  have hl := lv_entry ([.ref qM, .int x, .int y]) (n := 3) (Nat.le_of_ble_eq_true rfl)
  rw [lg_entry_eq]
  generalize (lg_sl ([.ref qM, .int x, .int y]) ++ List.replicate (3 - (lg_sl ([.ref qM, .int x, .int y])).length) Slot.unset).toArray = ls at hl ⊢
  have hl : lv_has ls 3 [(0, .ref qM), (1, .int x), (2, .int y)] := hl
  refine lv_aload_n hx hb dX4_nearness_0 rfl (lv_at hl 0 rfl) ?_
  refine lv_iconst (v := 0) hx hb dX4_nearness_1 (by decide) ?_
  refine va_put (D := (dC, dI)) (ci := 4) (v := .int 0) (ty := .int) (C := RX4) (T := TX4) (N := 11) hx hb hts td_fX4 tyX4 tyX4_ok nmX4 hown hK hP hD hS 0 rfl rfl 0 (by decide) (hts (.fieldLink RX4 30 "TileDeskModel" "thrown" "I") (td_i11 (List.mem_of_getElem? (i := 23) rfl))) (fun _ h9 => h9) rfl (by decide +kernel) rfl rfl (Nat.le_of_ble_eq_true rfl) dX4_nearness_2 (fun H locs hP hD hS => ?_)
  have hP : va_P (dC, dI) vwCl [(qM, .inr (4, [.int 0, .int (nI w), .int (nI h), .int (nI n), .ref mP, .int mb, .int mg, .int tk, .ref mC, .ref mN, .ref mD])), (mN, .inl (cI, 2304, .inl fn)), (mD, .inl (cZ, 36, .inl fD))] H := hP
  have hD : va_D A [(qM, .inr (4, [.int 0, .int (nI w), .int (nI h), .int (nI n), .ref mP, .int mb, .int mg, .int tk, .ref mC, .ref mN, .ref mD])), (mN, .inl (cI, 2304, .inl fn)), (mD, .inl (cZ, 36, .inl fD))] := hD
  refine lv_aload_n hx hb dX4_nearness_5 rfl (lv_at hl 0 rfl) ?_
  refine lv_iload_n hx hb dX4_nearness_6 rfl (lv_at hl 1 rfl) ?_
  refine lv_iload_n hx hb dX4_nearness_7 rfl (lv_at hl 2 rfl) ?_
  refine td_csi (va_runV (As := [.int x, .int y]) (rest := []) ⟨hx, hb, hml, hown, hts⟩ (tm_isSeen l dC dI cI cJ cZ qM mP mC mN mD w h n mb mg tk fD x y hw1 hw2 hh1 hh2) (cwV 2 hts (td_gV (td_i14 (List.mem_of_getElem? (i := 23) rfl)) (td_i15 (List.mem_of_getElem? (i := 0) rfl)) (td_i15 (List.mem_of_getElem? (i := 22) rfl)) (td_i1 (List.mem_of_getElem? (i := 6) rfl)) (td_i15 (List.mem_of_getElem? (i := 1) rfl))) rfl rfl rfl (by decide +kernel) ⟨(Nat.le_of_ble_eq_true rfl), (Nat.le_of_ble_eq_true rfl)⟩) (td_pRV hK hZ hP [0, 2] rfl (va_recv hK hP (ci := 4) (q0 := 0) rfl rfl)) rfl rfl hl.1 rfl (lv_room (Nat.le_of_ble_eq_true rfl)) dX4_nearness_8 ⟨Nat.zero_le _, Nat.zero_le _⟩) ?_
  refine td_ifeq (tgt := 28) hx hb dX4_nearness_11 (by decide) (fun c11 => ?_) (fun c11 => ?_)
  · refine lv_iconst (v := (-1)) hx hb dX4_nearness_28 (by decide) ?_
    have hP9 := hP.sub (ws' := [(qM, .inr (4, [.int 0, .int (nI w), .int (nI h), .int (nI n), .ref mP, .int mb, .int mg, .int tk, .ref mC, .ref mN, .ref mD])), (mN, .inl (cI, 2304, .inl fn)), (mD, .inl (cZ, 36, .inl fD))]) [0, 1, 2] rfl
    have hD9 := hD.sub (ws' := [(qM, .inr (4, [.int 0, .int (nI w), .int (nI h), .int (nI n), .ref mP, .int mb, .int mg, .int tk, .ref mC, .ref mN, .ref mD])), (mN, .inl (cI, 2304, .inl fn)), (mD, .inl (cZ, 36, .inl fD))]) [0, 1, 2] (by decide) rfl
    exact td_rwi () hx hb hr rfl hlocks hK (by rw [if_neg c11]) hP9 hD9 hS dX4_nearness_29
  · obtain ⟨X, hX, eX⟩ := td_idx (Int32.not_lt.mpr c11.2.1.1) (Int32.not_le.mpr c11.2.1.2) (by omega)
    obtain ⟨Y, hY, eY⟩ := td_idx (Int32.not_lt.mpr c11.2.2.1.1) (Int32.not_le.mpr c11.2.2.1.2) (by omega)
    refine lv_aload_n hx hb dX4_nearness_14 rfl (lv_at hl 0 rfl) ?_
    refine va_get (D := (dC, dI)) (ci := 4) (v := .ref mN) (C := RX4) (T := TX4) (N := 11) hx hb hts td_fX4 hown hK hP 0 rfl rfl 9 (by decide) (hts (.fieldLink RX4 16 "TileDeskModel" "nears" "[I") (td_i12 (List.mem_of_getElem? (i := 8) rfl))) (fun _ h9 => h9) rfl dX4_nearness_15 ?_
    refine lv_bipush (v := 48) hx hb dX4_nearness_18 (by decide) ?_
    refine lv_iload_n hx hb dX4_nearness_20 rfl (lv_at hl 2 rfl) ?_
    refine td_ti (nI Y) (eY) ?_
    refine lv_imul hx hb dX4_nearness_21 ?_
    refine td_ti (nI (48 * Y)) (pk_mul 48 Y) ?_
    refine lv_iload_n hx hb dX4_nearness_22 rfl (lv_at hl 1 rfl) ?_
    refine td_ti (nI X) (eX) ?_
    refine lv_iadd hx hb dX4_nearness_23 ?_
    refine td_ti (nI (48 * Y + X)) (nI_add (48 * Y) X) ?_
    refine td_iald hx hb hK hP 1 0 (48 * Y + X) rfl rfl rfl (by omega) (by decide) dX4_nearness_24 ?_
    refine lv_goto (tgt := 29) hx hb dX4_nearness_25 (by decide) ?_
    have hP9 := hP.sub (ws' := [(qM, .inr (4, [.int 0, .int (nI w), .int (nI h), .int (nI n), .ref mP, .int mb, .int mg, .int tk, .ref mC, .ref mN, .ref mD])), (mN, .inl (cI, 2304, .inl fn)), (mD, .inl (cZ, 36, .inl fD))]) [0, 1, 2] rfl
    have hD9 := hD.sub (ws' := [(qM, .inr (4, [.int 0, .int (nI w), .int (nI h), .int (nI n), .ref mP, .int mb, .int mg, .int tk, .ref mC, .ref mN, .ref mD])), (mN, .inl (cI, 2304, .inl fn)), (mD, .inl (cZ, 36, .inl fD))]) [0, 1, 2] (by decide) rfl
    exact td_rwi () hx hb hr rfl hlocks hK (by rw [if_pos c11, td_tn eX (by omega), td_tn eY (by omega)]) hP9 hD9 hS dX4_nearness_29
set_option maxHeartbeats 4000000 in
set_option maxRecDepth 100000 in
/-- count -/
theorem tm_count (l : Launch) (dC : Nat → ClassId) (dI : Nat → Nat → Nat) (cI cJ cZ : ClassId) (sz : Nat) (qM : Nat) (mP : Nat) (mC : Nat) (mN : Nat) (mD : Nat) (w : Nat) (h : Nat) (n : Nat) (mb : Int32) (mg : Int32) (tk : Int32) (fD : Nat → Int32) (what : Int32) : Met l yX4_count wsX4_count ({ frames := 0, cells := 0, slots := 0, locals := 0 }) (td_WP (dC, dI) vwCl (td_T cI cJ cZ) td_nl [(qM, .inr (4, [.int 0, .int (nI w), .int (nI h), .int (nI n), .ref mP, .int mb, .int mg, .int tk, .ref mC, .ref mN, .ref mD])), (mD, .inl (cZ, 36, .inl fD))] sz [.ref qM, .int what]) (va_Qi (S := Unit) (fun r u => r = td_cnt what (nI n) tk (td_dn fD 36) (nI w) (nI h)) (td_B (dC, dI) vwCl (td_T cI cJ cZ) (va_A [(qM, .inr (4, [.int 0, .int (nI w), .int (nI h), .int (nI n), .ref mP, .int mb, .int mg, .int tk, .ref mC, .ref mN, .ref mD])), (mD, .inl (cZ, 36, .inl fD))] sz) (fun (u : Unit) => [(qM, .inr (4, [.int 0, .int (nI w), .int (nI h), .int (nI n), .ref mP, .int mb, .int mg, .int tk, .ref mC, .ref mN, .ref mD])), (mD, .inl (cZ, 36, .inl fD))])) (va_A [(qM, .inr (4, [.int 0, .int (nI w), .int (nI h), .int (nI n), .ref mP, .int mb, .int mg, .int tk, .ref mC, .ref mN, .ref mD])), (mD, .inl (cZ, 36, .inl fD))] sz)) 0 0 (va_A [(qM, .inr (4, [.int 0, .int (nI w), .int (nI h), .int (nI n), .ref mP, .int mb, .int mg, .int tk, .ref mC, .ref mN, .ref mD])), (mD, .inl (cZ, 36, .inl fD))] sz) := by
  refine Met.ofW (cc := cX4_count) (maxL := 4) (ret := (some .int)) (by decide) rfl ?_
  intro p e s m args below meth c s₁ B hml hv
  obtain ⟨rfl, hsz, hP, hK, hZ, hD0⟩ := hv
  have hx := B.exec
  have hb := B.bytes
  have hr := B.returns
  have hts := atoms_spec (ws := wsX4_count) B.pre
  have hown : s.vm.findClass RX4 = some m.cls := findClass_of_methodNamed B.named
  have hlocks := B.notSynchronized
  subst hsz
  have hD := hD0.self (sz := s.heap.size)
  generalize hAe : va_A [(qM, .inr (4, [.int 0, .int (nI w), .int (nI h), .int (nI n), .ref mP, .int mb, .int mg, .int tk, .ref mC, .ref mN, .ref mD])), (mD, .inl (cZ, 36, .inl fD))] s.heap.size = A at hD ⊢
  have hA : ∀ q : Nat, s.heap.size ≤ q → A q := fun q h => by rw [← hAe]; exact Or.inr h
  have hS : va_S A s.heap s.heap [] := va_S.rf
  have hP : va_P (dC, dI) vwCl [(qM, .inr (4, [.int 0, .int (nI w), .int (nI h), .int (nI n), .ref mP, .int mb, .int mg, .int tk, .ref mC, .ref mN, .ref mD])), (mD, .inl (cZ, 36, .inl fD))] s.heap := hP
  have hl := lv_entry ([.ref qM, .int what]) (n := 4) (Nat.le_of_ble_eq_true rfl)
  rw [lg_entry_eq]
  generalize (lg_sl ([.ref qM, .int what]) ++ List.replicate (4 - (lg_sl ([.ref qM, .int what])).length) Slot.unset).toArray = ls at hl ⊢
  have hl : lv_has ls 4 [(0, .ref qM), (1, .int what)] := hl
  refine lv_aload_n hx hb dX4_count_0 rfl (lv_at hl 0 rfl) ?_
  refine lv_iconst (v := 0) hx hb dX4_count_1 (by decide) ?_
  refine va_put (D := (dC, dI)) (ci := 4) (v := .int 0) (ty := .int) (C := RX4) (T := TX4) (N := 11) hx hb hts td_fX4 tyX4 tyX4_ok nmX4 hown hK hP hD hS 0 rfl rfl 0 (by decide) (hts (.fieldLink RX4 30 "TileDeskModel" "thrown" "I") (td_i11 (List.mem_of_getElem? (i := 23) rfl))) (fun _ h9 => h9) rfl (by decide +kernel) rfl rfl (Nat.le_of_ble_eq_true rfl) dX4_count_2 (fun H locs hP hD hS => ?_)
  have hP : va_P (dC, dI) vwCl [(qM, .inr (4, [.int 0, .int (nI w), .int (nI h), .int (nI n), .ref mP, .int mb, .int mg, .int tk, .ref mC, .ref mN, .ref mD])), (mD, .inl (cZ, 36, .inl fD))] H := hP
  have hD : va_D A [(qM, .inr (4, [.int 0, .int (nI w), .int (nI h), .int (nI n), .ref mP, .int mb, .int mg, .int tk, .ref mC, .ref mN, .ref mD])), (mD, .inl (cZ, 36, .inl fD))] := hD
  refine lv_iconst (v := 0) hx hb dX4_count_5 (by decide) ?_
  refine lv_istore_n (lv' := [(2, .int 0), (0, .ref qM), (1, .int what)]) hx hb dX4_count_6 rfl hl (by decide) rfl (fun ls hl => ?_)
  refine lv_iconst (v := 0) hx hb dX4_count_7 (by decide) ?_
  refine lv_istore_n (lv' := [(3, .int 0), (2, .int 0), (0, .ref qM), (1, .int what)]) hx hb dX4_count_8 rfl hl (by decide) rfl (fun ls hl => ?_)
  have lp9 : ∀ (n9 : Nat) (t : Nat) (sm : Int32), (t ≤ 36) → (sm = td_dn fD t) → 36 - t < n9 → ∀ (H : Heap) (locs : List Loc), va_P (dC, dI) vwCl [(qM, .inr (4, [.int 0, .int (nI w), .int (nI h), .int (nI n), .ref mP, .int mb, .int mg, .int tk, .ref mC, .ref mN, .ref mD])), (mD, .inl (cZ, 36, .inl fD))] H → va_D A [(qM, .inr (4, [.int 0, .int (nI w), .int (nI h), .int (nI n), .ref mP, .int mb, .int mg, .int tk, .ref mC, .ref mN, .ref mD])), (mD, .inl (cZ, 36, .inl fD))] → va_S A s.heap H locs → ∀ ls : Array Slot, lv_has ls 4 [(0, .ref qM), (1, .int what), (2, .int sm), (3, .int (nI t))] → W p l e (headSpec wsX4_count ({ frames := 0, cells := 0, slots := 0, locals := 0 })).room s m (([.ref qM, .int what] : List Value).toArray) below meth c H locs 0 0 (MQ below (va_Qi (S := Unit) (fun r u => r = td_cnt what (nI n) tk (td_dn fD 36) (nI w) (nI h)) (td_B (dC, dI) vwCl (td_T cI cJ cZ) A (fun (u : Unit) => [(qM, .inr (4, [.int 0, .int (nI w), .int (nI h), .int (nI n), .ref mP, .int mb, .int mg, .int tk, .ref mC, .ref mN, .ref mD])), (mD, .inl (cZ, 36, .inl fD))])) A) (([.ref qM, .int what] : List Value).toArray) s 0 0 A) (F0 m 9 ls []) := by
    intro n9
    induction n9 with
    | zero => intro t sm ht hs hm; exact absurd hm (Nat.not_lt_zero _)
    | succ n9 ih9 =>
      intro t sm ht hs hm9 H locs hP hD hS ls hl
      refine lv_iload_n hx hb dX4_count_9 rfl (lv_at hl 3 rfl) ?_
      refine lv_bipush (v := 36) hx hb dX4_count_10 (by decide) ?_
      refine lv_icmp_ge (tgt := 38) hx hb dX4_count_12 (by decide) (fun c12 => ?_) (fun c12 => ?_)
      · have ht36 : t = 36 := by have := (nI_leI (a := 36) (b := t) (by decide) (by omega)).mp c12; omega
        subst ht36
        refine lv_iload_n hx hb dX4_count_38 rfl (lv_at hl 1 rfl) ?_
        by_cases k39_1 : what = 0
        · refine lv_tableIn (off := 33) (tgt := 72) hx hb dX4_count_39 (by rw [k39_1]; decide) (by rw [k39_1]; decide) (by rw [k39_1]; rfl) (by decide) ?_
          refine lv_aload_n hx hb dX4_count_72 rfl (lv_at hl 0 rfl) ?_
          refine va_get (D := (dC, dI)) (ci := 4) (v := .int (nI n)) (C := RX4) (T := TX4) (N := 11) hx hb hts td_fX4 hown hK hP 0 rfl rfl 3 (by decide) (hts (.fieldLink RX4 40 "TileDeskModel" "many" "I") (td_i12 (List.mem_of_getElem? (i := 2) rfl))) (fun _ h9 => h9) rfl dX4_count_73 ?_
          have hP9 := hP.sub (ws' := [(qM, .inr (4, [.int 0, .int (nI w), .int (nI h), .int (nI n), .ref mP, .int mb, .int mg, .int tk, .ref mC, .ref mN, .ref mD])), (mD, .inl (cZ, 36, .inl fD))]) [0, 1] rfl
          have hD9 := hD.sub (ws' := [(qM, .inr (4, [.int 0, .int (nI w), .int (nI h), .int (nI n), .ref mP, .int mb, .int mg, .int tk, .ref mC, .ref mN, .ref mD])), (mD, .inl (cZ, 36, .inl fD))]) [0, 1] (by decide) rfl
          exact td_rwi () hx hb hr rfl hlocks hK (by unfold td_cnt; simp [k39_1]) hP9 hD9 hS dX4_count_76
        by_cases k39_2 : what = 1
        · refine lv_tableIn (off := 38) (tgt := 77) hx hb dX4_count_39 (by rw [k39_2]; decide) (by rw [k39_2]; decide) (by rw [k39_2]; rfl) (by decide) ?_
          refine lv_aload_n hx hb dX4_count_77 rfl (lv_at hl 0 rfl) ?_
          refine va_get (D := (dC, dI)) (ci := 4) (v := .int tk) (C := RX4) (T := TX4) (N := 11) hx hb hts td_fX4 hown hK hP 0 rfl rfl 7 (by decide) (hts (.fieldLink RX4 80 "TileDeskModel" "took" "I") (td_i12 (List.mem_of_getElem? (i := 6) rfl))) (fun _ h9 => h9) rfl dX4_count_78 ?_
          have hP9 := hP.sub (ws' := [(qM, .inr (4, [.int 0, .int (nI w), .int (nI h), .int (nI n), .ref mP, .int mb, .int mg, .int tk, .ref mC, .ref mN, .ref mD])), (mD, .inl (cZ, 36, .inl fD))]) [0, 1] rfl
          have hD9 := hD.sub (ws' := [(qM, .inr (4, [.int 0, .int (nI w), .int (nI h), .int (nI n), .ref mP, .int mb, .int mg, .int tk, .ref mC, .ref mN, .ref mD])), (mD, .inl (cZ, 36, .inl fD))]) [0, 1] (by decide) rfl
          exact td_rwi () hx hb hr rfl hlocks hK (by unfold td_cnt; simp [k39_2]) hP9 hD9 hS dX4_count_81
        by_cases k39_3 : what = 2
        · refine lv_tableIn (off := 43) (tgt := 82) hx hb dX4_count_39 (by rw [k39_3]; decide) (by rw [k39_3]; decide) (by rw [k39_3]; rfl) (by decide) ?_
          refine lv_iload_n hx hb dX4_count_82 rfl (lv_at hl 2 rfl) ?_
          have hP9 := hP.sub (ws' := [(qM, .inr (4, [.int 0, .int (nI w), .int (nI h), .int (nI n), .ref mP, .int mb, .int mg, .int tk, .ref mC, .ref mN, .ref mD])), (mD, .inl (cZ, 36, .inl fD))]) [0, 1] rfl
          have hD9 := hD.sub (ws' := [(qM, .inr (4, [.int 0, .int (nI w), .int (nI h), .int (nI n), .ref mP, .int mb, .int mg, .int tk, .ref mC, .ref mN, .ref mD])), (mD, .inl (cZ, 36, .inl fD))]) [0, 1] (by decide) rfl
          exact td_rwi () hx hb hr rfl hlocks hK (by unfold td_cnt; simp [k39_3, hs]) hP9 hD9 hS dX4_count_83
        by_cases k39_4 : what = 3
        · refine lv_tableIn (off := 45) (tgt := 84) hx hb dX4_count_39 (by rw [k39_4]; decide) (by rw [k39_4]; decide) (by rw [k39_4]; rfl) (by decide) ?_
          refine lv_aload_n hx hb dX4_count_84 rfl (lv_at hl 0 rfl) ?_
          refine va_get (D := (dC, dI)) (ci := 4) (v := .int (nI w)) (C := RX4) (T := TX4) (N := 11) hx hb hts td_fX4 hown hK hP 0 rfl rfl 1 (by decide) (hts (.fieldLink RX4 23 "TileDeskModel" "width" "I") (td_i12 (List.mem_of_getElem? (i := 0) rfl))) (fun _ h9 => h9) rfl dX4_count_85 ?_
          have hP9 := hP.sub (ws' := [(qM, .inr (4, [.int 0, .int (nI w), .int (nI h), .int (nI n), .ref mP, .int mb, .int mg, .int tk, .ref mC, .ref mN, .ref mD])), (mD, .inl (cZ, 36, .inl fD))]) [0, 1] rfl
          have hD9 := hD.sub (ws' := [(qM, .inr (4, [.int 0, .int (nI w), .int (nI h), .int (nI n), .ref mP, .int mb, .int mg, .int tk, .ref mC, .ref mN, .ref mD])), (mD, .inl (cZ, 36, .inl fD))]) [0, 1] (by decide) rfl
          exact td_rwi () hx hb hr rfl hlocks hK (by unfold td_cnt; simp [k39_4]) hP9 hD9 hS dX4_count_88
        by_cases k39_5 : what = 4
        · refine lv_tableIn (off := 50) (tgt := 89) hx hb dX4_count_39 (by rw [k39_5]; decide) (by rw [k39_5]; decide) (by rw [k39_5]; rfl) (by decide) ?_
          refine lv_aload_n hx hb dX4_count_89 rfl (lv_at hl 0 rfl) ?_
          refine va_get (D := (dC, dI)) (ci := 4) (v := .int (nI h)) (C := RX4) (T := TX4) (N := 11) hx hb hts td_fX4 hown hK hP 0 rfl rfl 2 (by decide) (hts (.fieldLink RX4 27 "TileDeskModel" "height" "I") (td_i12 (List.mem_of_getElem? (i := 1) rfl))) (fun _ h9 => h9) rfl dX4_count_90 ?_
          have hP9 := hP.sub (ws' := [(qM, .inr (4, [.int 0, .int (nI w), .int (nI h), .int (nI n), .ref mP, .int mb, .int mg, .int tk, .ref mC, .ref mN, .ref mD])), (mD, .inl (cZ, 36, .inl fD))]) [0, 1] rfl
          have hD9 := hD.sub (ws' := [(qM, .inr (4, [.int 0, .int (nI w), .int (nI h), .int (nI n), .ref mP, .int mb, .int mg, .int tk, .ref mC, .ref mN, .ref mD])), (mD, .inl (cZ, 36, .inl fD))]) [0, 1] (by decide) rfl
          exact td_rwi () hx hb hr rfl hlocks hK (by unfold td_cnt; simp [k39_5]) hP9 hD9 hS dX4_count_93
        have tk39_1 := lv_neT (a := 0) k39_1 (by decide)
        have tk39_2 := lv_neT (a := 1) k39_2 (by decide)
        have tk39_3 := lv_neT (a := 2) k39_3 (by decide)
        have tk39_4 := lv_neT (a := 3) k39_4 (by decide)
        have tk39_5 := lv_neT (a := 4) k39_5 (by decide)
        refine lv_tableOut (tgt := 94) hx hb dX4_count_39 (by omega) (by decide) ?_
        refine lv_iconst (v := (-1)) hx hb dX4_count_94 (by decide) ?_
        have hP9 := hP.sub (ws' := [(qM, .inr (4, [.int 0, .int (nI w), .int (nI h), .int (nI n), .ref mP, .int mb, .int mg, .int tk, .ref mC, .ref mN, .ref mD])), (mD, .inl (cZ, 36, .inl fD))]) [0, 1] rfl
        have hD9 := hD.sub (ws' := [(qM, .inr (4, [.int 0, .int (nI w), .int (nI h), .int (nI n), .ref mP, .int mb, .int mg, .int tk, .ref mC, .ref mN, .ref mD])), (mD, .inl (cZ, 36, .inl fD))]) [0, 1] (by decide) rfl
        exact td_rwi () hx hb hr rfl hlocks hK (by unfold td_cnt; simp [*]) hP9 hD9 hS dX4_count_95
      · have ht2 : t < 36 := by rcases Nat.lt_or_ge t 36 with z | z; exact z; exact absurd (nI_le z (by omega)) c12
        refine lv_iload_n hx hb dX4_count_15 rfl (lv_at hl 2 rfl) ?_
        refine lv_aload_n hx hb dX4_count_16 rfl (lv_at hl 0 rfl) ?_
        refine va_get (D := (dC, dI)) (ci := 4) (v := .ref mD) (C := RX4) (T := TX4) (N := 11) hx hb hts td_fX4 hown hK hP 0 rfl rfl 10 (by decide) (hts (.fieldLink RX4 19 "TileDeskModel" "done" "[Z") (td_i12 (List.mem_of_getElem? (i := 9) rfl))) (fun _ h9 => h9) rfl dX4_count_17 ?_
        refine lv_iload_n hx hb dX4_count_20 rfl (lv_at hl 3 rfl) ?_
        refine td_zald hx hb hK hP 1 2 t rfl rfl rfl (by omega) (by decide) dX4_count_21 ?_
        refine lv_if_eq (tgt := 29) hx hb dX4_count_22 (by decide) (fun c22 => ?_) (fun c22 => ?_)
        · refine lv_iconst (v := 0) hx hb dX4_count_29 (by decide) ?_
          refine lv_iadd hx hb dX4_count_30 ?_
          refine lv_istore_n (lv' := [(2, .int (sm + 0)), (0, .ref qM), (1, .int what), (3, .int (nI t))]) hx hb dX4_count_31 rfl hl (by decide) rfl (fun ls hl => ?_)
          refine lv_iinc (v := nI (t + 1)) (lv' := [(3, .int (nI (t + 1))), (2, .int (sm + 0)), (0, .ref qM), (1, .int what)]) hx hb dX4_count_32 hl (k := 3) rfl (nI_add t 1) (by decide) rfl (fun ls hl => ?_)
          refine lv_goto (tgt := 9) hx hb dX4_count_35 (by decide) ?_
          exact ih9 (t + 1) (sm + 0) (by omega) (by rw [hs]; exact (td_dn0 c22).symm) (by omega) _ _ (hP.sub [0, 1] rfl) (hD.sub [0, 1] (by decide) rfl) hS ls (lv_sub hl [2, 3, 1, 0] rfl)
        · refine lv_iconst (v := 1) hx hb dX4_count_25 (by decide) ?_
          refine lv_goto (tgt := 30) hx hb dX4_count_26 (by decide) ?_
          refine lv_iadd hx hb dX4_count_30 ?_
          refine lv_istore_n (lv' := [(2, .int (sm + 1)), (0, .ref qM), (1, .int what), (3, .int (nI t))]) hx hb dX4_count_31 rfl hl (by decide) rfl (fun ls hl => ?_)
          refine lv_iinc (v := nI (t + 1)) (lv' := [(3, .int (nI (t + 1))), (2, .int (sm + 1)), (0, .ref qM), (1, .int what)]) hx hb dX4_count_32 hl (k := 3) rfl (nI_add t 1) (by decide) rfl (fun ls hl => ?_)
          refine lv_goto (tgt := 9) hx hb dX4_count_35 (by decide) ?_
          exact ih9 (t + 1) (sm + 1) (by omega) (by rw [hs]; exact (td_dn1 c22).symm) (by omega) _ _ (hP.sub [0, 1] rfl) (hD.sub [0, 1] (by decide) rfl) hS ls (lv_sub hl [2, 3, 1, 0] rfl)
  exact lp9 ((36 - 0) + 1) 0 0 (Nat.zero_le _) rfl (Nat.lt_succ_self _) _ _ (hP.sub [0, 1] rfl) (hD.sub [0, 1] (by decide) rfl) hS ls (lv_sub hl [2, 3, 1, 0] rfl)
