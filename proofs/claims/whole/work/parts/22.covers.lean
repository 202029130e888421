set_option maxHeartbeats 4000000 in
set_option maxRecDepth 100000 in
/-- Shape.coversPixel -/
theorem td_coversPixel (l : Launch) (dC : Nat → ClassId) (dI : Nat → Nat → Nat) (cI cJ cZ : ClassId) (sz : Nat) (qS : Nat) (aX : Nat) (aY : Nat) (aR : Nat) (aL : Nat) (aW : Nat) (vX : Nat → Int64) (vY : Nat → Int64) (vR : Nat → Int64) (vL : Nat → Int64) (vW : Nat → Int64) (i : Nat) (j : Nat) (hi : i < 48) (hj : j < 48) : Met l yX0_coversPixel wsX0_coversPixel ({ frames := 1, cells := 0, slots := 0, locals := 22 }) (td_WP (dC, dI) vwCl (td_T cI cJ cZ) td_nl [(qS, .inr (0, [.ref aX, .ref aY, .ref aR, .ref aL, .ref aW])), (aX, .inl (cJ, 3, .inr (.inl vX))), (aY, .inl (cJ, 3, .inr (.inl vY))), (aR, .inl (cJ, 3, .inr (.inl vR))), (aL, .inl (cJ, 3, .inr (.inl vL))), (aW, .inl (cJ, 3, .inr (.inl vW)))] sz [.ref qS, .int (nI i), .int (nI j)]) (va_Qi (S := (Nat → Int64)) (fun r u => (r = 1 ∧ td_cc3 vX vY (lN (16 * i + 8)) (lN (16 * j + 8)) ∧ ∀ t, t < 3 → u t = td_ce vX vY t (lN (16 * i + 8)) (lN (16 * j + 8))) ∨ (r = 0 ∧ ¬ td_cc3 vX vY (lN (16 * i + 8)) (lN (16 * j + 8)))) (td_B (dC, dI) vwCl (td_T cI cJ cZ) (va_A [(qS, .inr (0, [.ref aX, .ref aY, .ref aR, .ref aL, .ref aW])), (aX, .inl (cJ, 3, .inr (.inl vX))), (aY, .inl (cJ, 3, .inr (.inl vY))), (aR, .inl (cJ, 3, .inr (.inl vR))), (aL, .inl (cJ, 3, .inr (.inl vL))), (aW, .inl (cJ, 3, .inr (.inl vW)))] sz) (fun (u : (Nat → Int64)) => [(qS, .inr (0, [.ref aX, .ref aY, .ref aR, .ref aL, .ref aW])), (aX, .inl (cJ, 3, .inr (.inl vX))), (aY, .inl (cJ, 3, .inr (.inl vY))), (aR, .inl (cJ, 3, .inr (.inl vR))), (aL, .inl (cJ, 3, .inr (.inl vL))), (aW, .inl (cJ, 3, .inr (.inl u)))])) (va_A [(qS, .inr (0, [.ref aX, .ref aY, .ref aR, .ref aL, .ref aW])), (aX, .inl (cJ, 3, .inr (.inl vX))), (aY, .inl (cJ, 3, .inr (.inl vY))), (aR, .inl (cJ, 3, .inr (.inl vR))), (aL, .inl (cJ, 3, .inr (.inl vL))), (aW, .inl (cJ, 3, .inr (.inl vW)))] sz)) 0 0 (va_A [(qS, .inr (0, [.ref aX, .ref aY, .ref aR, .ref aL, .ref aW])), (aX, .inl (cJ, 3, .inr (.inl vX))), (aY, .inl (cJ, 3, .inr (.inl vY))), (aR, .inl (cJ, 3, .inr (.inl vR))), (aL, .inl (cJ, 3, .inr (.inl vL))), (aW, .inl (cJ, 3, .inr (.inl vW)))] sz) := by
  refine Met.ofW (cc := cX0_coversPixel) (maxL := 12) (ret := (some .boolean)) (by decide) rfl ?_
  intro p e s m args below meth c s₁ B hml hv
  obtain ⟨rfl, hsz, hP, hK, hZ, hD0⟩ := hv
  have hx := B.exec
  have hb := B.bytes
  have hr := B.returns
  have hts := atoms_spec (ws := wsX0_coversPixel) B.pre
  have hown : s.vm.findClass RX0 = some m.cls := findClass_of_methodNamed B.named
  have hlocks := B.notSynchronized
  subst hsz
  have hD := hD0.self (sz := s.heap.size)
  generalize hAe : va_A [(qS, .inr (0, [.ref aX, .ref aY, .ref aR, .ref aL, .ref aW])), (aX, .inl (cJ, 3, .inr (.inl vX))), (aY, .inl (cJ, 3, .inr (.inl vY))), (aR, .inl (cJ, 3, .inr (.inl vR))), (aL, .inl (cJ, 3, .inr (.inl vL))), (aW, .inl (cJ, 3, .inr (.inl vW)))] s.heap.size = A at hD ⊢
  have hA : ∀ q : Nat, s.heap.size ≤ q → A q := fun q h => by rw [← hAe]; exact Or.inr h
  have hS : va_S A s.heap s.heap [] := va_S.rf
  have hP : va_P (dC, dI) vwCl [(qS, .inr (0, [.ref aX, .ref aY, .ref aR, .ref aL, .ref aW])), (aX, .inl (cJ, 3, .inr (.inl vX))), (aY, .inl (cJ, 3, .inr (.inl vY))), (aR, .inl (cJ, 3, .inr (.inl vR))), (aL, .inl (cJ, 3, .inr (.inl vL))), (aW, .inl (cJ, 3, .inr (.inl vW)))] s.heap := hP
  have hl := lv_entry ([.ref qS, .int (nI i), .int (nI j)]) (n := 12) (Nat.le_of_ble_eq_true rfl)
  rw [lg_entry_eq]
  generalize (lg_sl ([.ref qS, .int (nI i), .int (nI j)]) ++ List.replicate (12 - (lg_sl ([.ref qS, .int (nI i), .int (nI j)])).length) Slot.unset).toArray = ls at hl ⊢
  have hl : lv_has ls 12 [(0, .ref qS), (1, .int (nI i)), (2, .int (nI j))] := hl
  refine lv_bipush (v := 16) hx hb dX0_coversPixel_0 (by decide) ?_
  refine lv_iload_n hx hb dX0_coversPixel_2 rfl (lv_at hl 1 rfl) ?_
  refine lv_imul hx hb dX0_coversPixel_3 ?_
  refine td_ti (nI (16 * i)) (pk_mul 16 i) ?_
  refine lv_bipush (v := 8) hx hb dX0_coversPixel_4 (by decide) ?_
  refine lv_iadd hx hb dX0_coversPixel_6 ?_
  refine td_ti (nI (16 * i + 8)) (nI_add (16 * i) 8) ?_
  refine lv_i2l (v := (nI (16 * i + 8)).toInt64) hx hb dX0_coversPixel_7 rfl ?_
  refine td_tl (lN (16 * i + 8)) (nI_l (by omega)) ?_
  refine lv_lstore_n (lv' := [(3, .long (lN (16 * i + 8))), (0, .ref qS), (1, .int (nI i)), (2, .int (nI j))]) hx hb dX0_coversPixel_8 rfl hl (by decide) rfl (fun ls hl => ?_)
  refine lv_bipush (v := 16) hx hb dX0_coversPixel_9 (by decide) ?_
  refine lv_iload_n hx hb dX0_coversPixel_11 rfl (lv_at hl 3 rfl) ?_
  refine lv_imul hx hb dX0_coversPixel_12 ?_
  refine td_ti (nI (16 * j)) (pk_mul 16 j) ?_
  refine lv_bipush (v := 8) hx hb dX0_coversPixel_13 (by decide) ?_
  refine lv_iadd hx hb dX0_coversPixel_15 ?_
  refine td_ti (nI (16 * j + 8)) (nI_add (16 * j) 8) ?_
  refine lv_i2l (v := (nI (16 * j + 8)).toInt64) hx hb dX0_coversPixel_16 rfl ?_
  refine td_tl (lN (16 * j + 8)) (nI_l (by omega)) ?_
  refine lv_lstore (lv' := [(5, .long (lN (16 * j + 8))), (3, .long (lN (16 * i + 8))), (0, .ref qS), (1, .int (nI i)), (2, .int (nI j))]) hx hb dX0_coversPixel_17 hl (by decide) rfl (fun ls hl => ?_)
  refine lv_iconst (v := 0) hx hb dX0_coversPixel_19 (by decide) ?_
  refine lv_istore (lv' := [(7, .int 0), (5, .long (lN (16 * j + 8))), (3, .long (lN (16 * i + 8))), (0, .ref qS), (1, .int (nI i)), (2, .int (nI j))]) hx hb dX0_coversPixel_20 hl (by decide) rfl (fun ls hl => ?_)
  have lp22 : ∀ (n22 : Nat) (k : Nat) (nW : Nat → Int64), (k ≤ 3) → (∀ t, t < k → td_cc vX vY t (lN (16 * i + 8)) (lN (16 * j + 8))) → (∀ t, t < k → nW t = td_ce vX vY t (lN (16 * i + 8)) (lN (16 * j + 8))) → 3 - k < n22 → ∀ (H : Heap) (locs : List Loc), va_P (dC, dI) vwCl [(qS, .inr (0, [.ref aX, .ref aY, .ref aR, .ref aL, .ref aW])), (aX, .inl (cJ, 3, .inr (.inl vX))), (aY, .inl (cJ, 3, .inr (.inl vY))), (aR, .inl (cJ, 3, .inr (.inl vR))), (aL, .inl (cJ, 3, .inr (.inl vL))), (aW, .inl (cJ, 3, .inr (.inl nW)))] H → va_D A [(qS, .inr (0, [.ref aX, .ref aY, .ref aR, .ref aL, .ref aW])), (aX, .inl (cJ, 3, .inr (.inl vX))), (aY, .inl (cJ, 3, .inr (.inl vY))), (aR, .inl (cJ, 3, .inr (.inl vR))), (aL, .inl (cJ, 3, .inr (.inl vL))), (aW, .inl (cJ, 3, .inr (.inl nW)))] → va_S A s.heap H locs → ∀ ls : Array Slot, lv_has ls 12 [(0, .ref qS), (3, .long (lN (16 * i + 8))), (5, .long (lN (16 * j + 8))), (7, .int (nI k))] → W p l e (headSpec wsX0_coversPixel ({ frames := 1, cells := 0, slots := 0, locals := 22 })).room s m (([.ref qS, .int (nI i), .int (nI j)] : List Value).toArray) below meth c H locs 0 0 (MQ below (va_Qi (S := (Nat → Int64)) (fun r u => (r = 1 ∧ td_cc3 vX vY (lN (16 * i + 8)) (lN (16 * j + 8)) ∧ ∀ t, t < 3 → u t = td_ce vX vY t (lN (16 * i + 8)) (lN (16 * j + 8))) ∨ (r = 0 ∧ ¬ td_cc3 vX vY (lN (16 * i + 8)) (lN (16 * j + 8)))) (td_B (dC, dI) vwCl (td_T cI cJ cZ) A (fun (u : (Nat → Int64)) => [(qS, .inr (0, [.ref aX, .ref aY, .ref aR, .ref aL, .ref aW])), (aX, .inl (cJ, 3, .inr (.inl vX))), (aY, .inl (cJ, 3, .inr (.inl vY))), (aR, .inl (cJ, 3, .inr (.inl vR))), (aL, .inl (cJ, 3, .inr (.inl vL))), (aW, .inl (cJ, 3, .inr (.inl u)))])) A) (([.ref qS, .int (nI i), .int (nI j)] : List Value).toArray) s 0 0 A) (F0 m 22 ls []) := by
    intro n22
    induction n22 with
    | zero => intro k nW hk hcv hnw hm; exact absurd hm (Nat.not_lt_zero _)
    | succ n22 ih22 =>
      intro k nW hk hcv hnw hm22 H locs hP hD hS ls hl
      refine lv_iload hx hb dX0_coversPixel_22 (lv_at hl 3 rfl) ?_
      refine lv_iconst (v := 3) hx hb dX0_coversPixel_24 (by decide) ?_
      refine lv_icmp_ge (tgt := 140) hx hb dX0_coversPixel_25 (by decide) (fun c25 => ?_) (fun c25 => ?_)
      · have hk3 : k = 3 := by have := (nI_leI (a := 3) (b := k) (by omega) (by omega)).mp c25; omega
        subst hk3
        refine lv_iconst (v := 1) hx hb dX0_coversPixel_140 (by decide) ?_
        have hP9 := hP.sub (ws' := [(qS, .inr (0, [.ref aX, .ref aY, .ref aR, .ref aL, .ref aW])), (aX, .inl (cJ, 3, .inr (.inl vX))), (aY, .inl (cJ, 3, .inr (.inl vY))), (aR, .inl (cJ, 3, .inr (.inl vR))), (aL, .inl (cJ, 3, .inr (.inl vL))), (aW, .inl (cJ, 3, .inr (.inl nW)))]) [0, 1, 2, 3, 4, 5] rfl
        have hD9 := hD.sub (ws' := [(qS, .inr (0, [.ref aX, .ref aY, .ref aR, .ref aL, .ref aW])), (aX, .inl (cJ, 3, .inr (.inl vX))), (aY, .inl (cJ, 3, .inr (.inl vY))), (aR, .inl (cJ, 3, .inr (.inl vR))), (aL, .inl (cJ, 3, .inr (.inl vL))), (aW, .inl (cJ, 3, .inr (.inl nW)))]) [0, 1, 2, 3, 4, 5] (by decide) rfl
        exact td_rwi nW hx hb hr rfl hlocks hK (Or.inl ⟨rfl, ⟨hcv 0 (by decide), hcv 1 (by decide), hcv 2 (by decide)⟩, hnw⟩) hP9 hD9 hS dX0_coversPixel_141
      · have hk2 : k < 3 := by rcases Nat.lt_or_ge k 3 with h | h; exact h; exact absurd (nI_le h (by omega)) c25
        refine lv_iload hx hb dX0_coversPixel_28 (lv_at hl 3 rfl) ?_
        refine lv_iconst (v := 1) hx hb dX0_coversPixel_30 (by decide) ?_
        refine lv_iadd hx hb dX0_coversPixel_31 ?_
        refine td_ti (nI (k + 1)) (nI_add k 1) ?_
        refine lv_iconst (v := 3) hx hb dX0_coversPixel_32 (by decide) ?_
        refine lv_irem hx hb dX0_coversPixel_33 (by decide) ?_
        refine td_ti (nI ((k + 1) % 3)) (pk_rem (a := k + 1) (d := 3) (by omega) (by omega) (by omega)) ?_
        refine lv_istore (lv' := [(8, .int (nI ((k + 1) % 3))), (0, .ref qS), (3, .long (lN (16 * i + 8))), (5, .long (lN (16 * j + 8))), (7, .int (nI k))]) hx hb dX0_coversPixel_34 hl (by decide) rfl (fun ls hl => ?_)
        refine lv_iload hx hb dX0_coversPixel_36 (lv_at hl 4 rfl) ?_
        refine lv_iconst (v := 2) hx hb dX0_coversPixel_38 (by decide) ?_
        refine lv_iadd hx hb dX0_coversPixel_39 ?_
        refine td_ti (nI (k + 2)) (nI_add k 2) ?_
        refine lv_iconst (v := 3) hx hb dX0_coversPixel_40 (by decide) ?_
        refine lv_irem hx hb dX0_coversPixel_41 (by decide) ?_
        refine td_ti (nI ((k + 2) % 3)) (pk_rem (a := k + 2) (d := 3) (by omega) (by omega) (by omega)) ?_
        refine lv_istore (lv' := [(9, .int (nI ((k + 2) % 3))), (8, .int (nI ((k + 1) % 3))), (0, .ref qS), (3, .long (lN (16 * i + 8))), (5, .long (lN (16 * j + 8))), (7, .int (nI k))]) hx hb dX0_coversPixel_42 hl (by decide) rfl (fun ls hl => ?_)
        refine lv_aload_n hx hb dX0_coversPixel_44 rfl (lv_at hl 2 rfl) ?_
        refine va_get (D := (dC, dI)) (ci := 0) (v := .ref aX) (C := RX0) (T := TX0) (N := 5) hx hb hts td_fX0 hown hK hP 0 rfl rfl 0 (by decide) (hts (.fieldLink RX0 9 "TileDesk$Shape" "xs" "[J") (td_i1 (List.mem_of_getElem? (i := 21) rfl))) (fun _ h9 => h9) rfl dX0_coversPixel_45 ?_
        refine lv_iload hx hb dX0_coversPixel_48 (lv_at hl 0 rfl) ?_
        refine td_lald hx hb hK hP 1 1 ((k + 2) % 3) rfl rfl rfl (by omega) (by decide) dX0_coversPixel_50 ?_
        refine lv_aload_n hx hb dX0_coversPixel_51 rfl (lv_at hl 2 rfl) ?_
        refine va_get (D := (dC, dI)) (ci := 0) (v := .ref aX) (C := RX0) (T := TX0) (N := 5) hx hb hts td_fX0 hown hK hP 0 rfl rfl 0 (by decide) (hts (.fieldLink RX0 9 "TileDesk$Shape" "xs" "[J") (td_i1 (List.mem_of_getElem? (i := 21) rfl))) (fun _ h9 => h9) rfl dX0_coversPixel_52 ?_
        refine lv_iload hx hb dX0_coversPixel_55 (lv_at hl 1 rfl) ?_
        refine td_lald hx hb hK hP 1 1 ((k + 1) % 3) rfl rfl rfl (by omega) (by decide) dX0_coversPixel_57 ?_
        refine lv_lsub hx hb dX0_coversPixel_58 ?_
        refine lv_lload hx hb dX0_coversPixel_59 (lv_at hl 4 rfl) ?_
        refine lv_aload_n hx hb dX0_coversPixel_61 rfl (lv_at hl 2 rfl) ?_
        refine va_get (D := (dC, dI)) (ci := 0) (v := .ref aY) (C := RX0) (T := TX0) (N := 5) hx hb hts td_fX0 hown hK hP 0 rfl rfl 1 (by decide) (hts (.fieldLink RX0 15 "TileDesk$Shape" "ys" "[J") (td_i1 (List.mem_of_getElem? (i := 22) rfl))) (fun _ h9 => h9) rfl dX0_coversPixel_62 ?_
        refine lv_iload hx hb dX0_coversPixel_65 (lv_at hl 1 rfl) ?_
        refine td_lald hx hb hK hP 2 1 ((k + 1) % 3) rfl rfl rfl (by omega) (by decide) dX0_coversPixel_67 ?_
        refine lv_lsub hx hb dX0_coversPixel_68 ?_
        refine lv_lmul hx hb dX0_coversPixel_69 ?_
        refine lv_aload_n hx hb dX0_coversPixel_70 rfl (lv_at hl 2 rfl) ?_
        refine va_get (D := (dC, dI)) (ci := 0) (v := .ref aY) (C := RX0) (T := TX0) (N := 5) hx hb hts td_fX0 hown hK hP 0 rfl rfl 1 (by decide) (hts (.fieldLink RX0 15 "TileDesk$Shape" "ys" "[J") (td_i1 (List.mem_of_getElem? (i := 22) rfl))) (fun _ h9 => h9) rfl dX0_coversPixel_71 ?_
        refine lv_iload hx hb dX0_coversPixel_74 (lv_at hl 0 rfl) ?_
        refine td_lald hx hb hK hP 2 1 ((k + 2) % 3) rfl rfl rfl (by omega) (by decide) dX0_coversPixel_76 ?_
        refine lv_aload_n hx hb dX0_coversPixel_77 rfl (lv_at hl 2 rfl) ?_
        refine va_get (D := (dC, dI)) (ci := 0) (v := .ref aY) (C := RX0) (T := TX0) (N := 5) hx hb hts td_fX0 hown hK hP 0 rfl rfl 1 (by decide) (hts (.fieldLink RX0 15 "TileDesk$Shape" "ys" "[J") (td_i1 (List.mem_of_getElem? (i := 22) rfl))) (fun _ h9 => h9) rfl dX0_coversPixel_78 ?_
        refine lv_iload hx hb dX0_coversPixel_81 (lv_at hl 1 rfl) ?_
        refine td_lald hx hb hK hP 2 1 ((k + 1) % 3) rfl rfl rfl (by omega) (by decide) dX0_coversPixel_83 ?_
        refine lv_lsub hx hb dX0_coversPixel_84 ?_
        refine lv_lload_n hx hb dX0_coversPixel_85 rfl (lv_at hl 3 rfl) ?_
        refine lv_aload_n hx hb dX0_coversPixel_86 rfl (lv_at hl 2 rfl) ?_
        refine va_get (D := (dC, dI)) (ci := 0) (v := .ref aX) (C := RX0) (T := TX0) (N := 5) hx hb hts td_fX0 hown hK hP 0 rfl rfl 0 (by decide) (hts (.fieldLink RX0 9 "TileDesk$Shape" "xs" "[J") (td_i1 (List.mem_of_getElem? (i := 21) rfl))) (fun _ h9 => h9) rfl dX0_coversPixel_87 ?_
        refine lv_iload hx hb dX0_coversPixel_90 (lv_at hl 1 rfl) ?_
        refine td_lald hx hb hK hP 1 1 ((k + 1) % 3) rfl rfl rfl (by omega) (by decide) dX0_coversPixel_92 ?_
        refine lv_lsub hx hb dX0_coversPixel_93 ?_
        refine lv_lmul hx hb dX0_coversPixel_94 ?_
        refine lv_lsub hx hb dX0_coversPixel_95 ?_
        refine td_tl (td_ce vX vY k (lN (16 * i + 8)) (lN (16 * j + 8))) (rfl) ?_
        refine lv_lstore (lv' := [(10, .long (td_ce vX vY k (lN (16 * i + 8)) (lN (16 * j + 8)))), (9, .int (nI ((k + 2) % 3))), (8, .int (nI ((k + 1) % 3))), (0, .ref qS), (3, .long (lN (16 * i + 8))), (5, .long (lN (16 * j + 8))), (7, .int (nI k))]) hx hb dX0_coversPixel_96 hl (by decide) rfl (fun ls hl => ?_)
        refine lv_lload hx hb dX0_coversPixel_98 (lv_at hl 0 rfl) ?_
        refine lv_lconst (v := 0) hx hb dX0_coversPixel_100 (by decide) ?_
        refine W.lcmp hx hb dX0_coversPixel_101 ?_
        refine td_llt (tgt := 123) hx hb dX0_coversPixel_102 (by decide) (fun c102 => ?_) (fun c102 => ?_)
        · refine lv_iconst (v := 0) hx hb dX0_coversPixel_123 (by decide) ?_
          have hP9 := hP.sub (ws' := [(qS, .inr (0, [.ref aX, .ref aY, .ref aR, .ref aL, .ref aW])), (aX, .inl (cJ, 3, .inr (.inl vX))), (aY, .inl (cJ, 3, .inr (.inl vY))), (aR, .inl (cJ, 3, .inr (.inl vR))), (aL, .inl (cJ, 3, .inr (.inl vL))), (aW, .inl (cJ, 3, .inr (.inl nW)))]) [0, 1, 2, 3, 4, 5] rfl
          have hD9 := hD.sub (ws' := [(qS, .inr (0, [.ref aX, .ref aY, .ref aR, .ref aL, .ref aW])), (aX, .inl (cJ, 3, .inr (.inl vX))), (aY, .inl (cJ, 3, .inr (.inl vY))), (aR, .inl (cJ, 3, .inr (.inl vR))), (aL, .inl (cJ, 3, .inr (.inl vL))), (aW, .inl (cJ, 3, .inr (.inl nW)))]) [0, 1, 2, 3, 4, 5] (by decide) rfl
          exact td_rwi nW hx hb hr rfl hlocks hK (Or.inr ⟨rfl, fun z => td_ncc (k := k) hk2 z (fun z => td_n1 c102 z)⟩) hP9 hD9 hS dX0_coversPixel_124
        · refine lv_lload hx hb dX0_coversPixel_105 (lv_at hl 0 rfl) ?_
          refine lv_lconst (v := 0) hx hb dX0_coversPixel_107 (by decide) ?_
          refine W.lcmp hx hb dX0_coversPixel_108 ?_
          refine td_lne (tgt := 125) hx hb dX0_coversPixel_109 (by decide) (fun c109 => ?_) (fun c109 => ?_)
          · refine lv_aload_n hx hb dX0_coversPixel_125 rfl (lv_at hl 3 rfl) ?_
            refine va_get (D := (dC, dI)) (ci := 0) (v := .ref aW) (C := RX0) (T := TX0) (N := 5) hx hb hts td_fX0 hown hK hP 0 rfl rfl 4 (by decide) (hts (.fieldLink RX0 24 "TileDesk$Shape" "weights" "[J") (td_i2 (List.mem_of_getElem? (i := 1) rfl))) (fun _ h9 => h9) rfl dX0_coversPixel_126 ?_
            refine lv_iload hx hb dX0_coversPixel_129 (lv_at hl 6 rfl) ?_
            refine lv_lload hx hb dX0_coversPixel_131 (lv_at hl 0 rfl) ?_
            refine td_last hx hb hK hP hD hS 5 1 k rfl rfl rfl (by omega) (by decide) dX0_coversPixel_133 (fun H locs hP hD hS => ?_)
            have hP : va_P (dC, dI) vwCl [(qS, .inr (0, [.ref aX, .ref aY, .ref aR, .ref aL, .ref aW])), (aX, .inl (cJ, 3, .inr (.inl vX))), (aY, .inl (cJ, 3, .inr (.inl vY))), (aR, .inl (cJ, 3, .inr (.inl vR))), (aL, .inl (cJ, 3, .inr (.inl vL))), (aW, .inl (cJ, 3, .inr (.inl (vp_updL nW k (td_ce vX vY k (lN (16 * i + 8)) (lN (16 * j + 8)))))))] H := hP
            have hD : va_D A [(qS, .inr (0, [.ref aX, .ref aY, .ref aR, .ref aL, .ref aW])), (aX, .inl (cJ, 3, .inr (.inl vX))), (aY, .inl (cJ, 3, .inr (.inl vY))), (aR, .inl (cJ, 3, .inr (.inl vR))), (aL, .inl (cJ, 3, .inr (.inl vL))), (aW, .inl (cJ, 3, .inr (.inl (vp_updL nW k (td_ce vX vY k (lN (16 * i + 8)) (lN (16 * j + 8)))))))] := hD
            refine lv_iinc (v := nI (k + 1)) (lv' := [(7, .int (nI (k + 1))), (10, .long (td_ce vX vY k (lN (16 * i + 8)) (lN (16 * j + 8)))), (9, .int (nI ((k + 2) % 3))), (8, .int (nI ((k + 1) % 3))), (0, .ref qS), (3, .long (lN (16 * i + 8))), (5, .long (lN (16 * j + 8)))]) hx hb dX0_coversPixel_134 hl (k := 6) rfl (nI_add k 1) (by decide) rfl (fun ls hl => ?_)
            refine lv_goto (tgt := 22) hx hb dX0_coversPixel_137 (by decide) ?_
            exact ih22 (k + 1) (vp_updL nW k (td_ce vX vY k (lN (16 * i + 8)) (lN (16 * j + 8)))) (by omega) (lt_s hcv (Or.inl (td_pos64 c102 c109))) (td_wst hnw rfl) (by omega) _ _ (hP.sub [0, 1, 2, 3, 4, 5] rfl) (hD.sub [0, 1, 2, 3, 4, 5] (by decide) rfl) hS ls (lv_sub hl [4, 5, 6, 0] rfl)
          · refine lv_aload_n hx hb dX0_coversPixel_112 rfl (lv_at hl 3 rfl) ?_
            refine lv_iload hx hb dX0_coversPixel_113 (lv_at hl 2 rfl) ?_
            refine lv_iload hx hb dX0_coversPixel_115 (lv_at hl 1 rfl) ?_
            refine td_csi (va_runV (As := [.int (nI ((k + 1) % 3)), .int (nI ((k + 2) % 3))]) (rest := []) ⟨hx, hb, hml, hown, hts⟩ (td_owns l dC dI cI cJ cZ qS aX aY aR aL aW vX vY vR vL nW ((k + 1) % 3) ((k + 2) % 3) (by omega) (by omega)) (cwV 2 hts (td_gV (td_i9 (List.mem_of_getElem? (i := 20) rfl)) (td_i9 (List.mem_of_getElem? (i := 21) rfl)) (td_i15 (List.mem_of_getElem? (i := 13) rfl)) (td_i1 (List.mem_of_getElem? (i := 2) rfl)) (td_i9 (List.mem_of_getElem? (i := 22) rfl))) rfl rfl rfl (by decide +kernel) ⟨(Nat.le_of_ble_eq_true rfl), (Nat.le_of_ble_eq_true rfl)⟩) (td_pRV hK hZ hP [0, 1, 2, 3, 4, 5] rfl (va_recv hK hP (ci := 0) (q0 := 0) rfl rfl)) rfl rfl hl.1 rfl (lv_room (Nat.le_of_ble_eq_true rfl)) dX0_coversPixel_117 ⟨Nat.zero_le _, Nat.zero_le _⟩) ?_
            refine td_ifne (tgt := 125) hx hb dX0_coversPixel_120 (by decide) (fun c120 => ?_) (fun c120 => ?_)
            · refine lv_aload_n hx hb dX0_coversPixel_125 rfl (lv_at hl 3 rfl) ?_
              refine va_get (D := (dC, dI)) (ci := 0) (v := .ref aW) (C := RX0) (T := TX0) (N := 5) hx hb hts td_fX0 hown hK hP 0 rfl rfl 4 (by decide) (hts (.fieldLink RX0 24 "TileDesk$Shape" "weights" "[J") (td_i2 (List.mem_of_getElem? (i := 1) rfl))) (fun _ h9 => h9) rfl dX0_coversPixel_126 ?_
              refine lv_iload hx hb dX0_coversPixel_129 (lv_at hl 6 rfl) ?_
              refine lv_lload hx hb dX0_coversPixel_131 (lv_at hl 0 rfl) ?_
              refine td_last hx hb hK hP hD hS 5 1 k rfl rfl rfl (by omega) (by decide) dX0_coversPixel_133 (fun H locs hP hD hS => ?_)
              have hP : va_P (dC, dI) vwCl [(qS, .inr (0, [.ref aX, .ref aY, .ref aR, .ref aL, .ref aW])), (aX, .inl (cJ, 3, .inr (.inl vX))), (aY, .inl (cJ, 3, .inr (.inl vY))), (aR, .inl (cJ, 3, .inr (.inl vR))), (aL, .inl (cJ, 3, .inr (.inl vL))), (aW, .inl (cJ, 3, .inr (.inl (vp_updL nW k (td_ce vX vY k (lN (16 * i + 8)) (lN (16 * j + 8)))))))] H := hP
              have hD : va_D A [(qS, .inr (0, [.ref aX, .ref aY, .ref aR, .ref aL, .ref aW])), (aX, .inl (cJ, 3, .inr (.inl vX))), (aY, .inl (cJ, 3, .inr (.inl vY))), (aR, .inl (cJ, 3, .inr (.inl vR))), (aL, .inl (cJ, 3, .inr (.inl vL))), (aW, .inl (cJ, 3, .inr (.inl (vp_updL nW k (td_ce vX vY k (lN (16 * i + 8)) (lN (16 * j + 8)))))))] := hD
              refine lv_iinc (v := nI (k + 1)) (lv' := [(7, .int (nI (k + 1))), (10, .long (td_ce vX vY k (lN (16 * i + 8)) (lN (16 * j + 8)))), (9, .int (nI ((k + 2) % 3))), (8, .int (nI ((k + 1) % 3))), (0, .ref qS), (3, .long (lN (16 * i + 8))), (5, .long (lN (16 * j + 8)))]) hx hb dX0_coversPixel_134 hl (k := 6) rfl (nI_add k 1) (by decide) rfl (fun ls hl => ?_)
              refine lv_goto (tgt := 22) hx hb dX0_coversPixel_137 (by decide) ?_
              exact ih22 (k + 1) (vp_updL nW k (td_ce vX vY k (lN (16 * i + 8)) (lN (16 * j + 8)))) (by omega) (lt_s hcv (Or.inr ⟨c109, c120⟩)) (td_wst hnw rfl) (by omega) _ _ (hP.sub [0, 1, 2, 3, 4, 5] rfl) (hD.sub [0, 1, 2, 3, 4, 5] (by decide) rfl) hS ls (lv_sub hl [4, 5, 6, 0] rfl)
            · refine lv_iconst (v := 0) hx hb dX0_coversPixel_123 (by decide) ?_
              have hP9 := hP.sub (ws' := [(qS, .inr (0, [.ref aX, .ref aY, .ref aR, .ref aL, .ref aW])), (aX, .inl (cJ, 3, .inr (.inl vX))), (aY, .inl (cJ, 3, .inr (.inl vY))), (aR, .inl (cJ, 3, .inr (.inl vR))), (aL, .inl (cJ, 3, .inr (.inl vL))), (aW, .inl (cJ, 3, .inr (.inl nW)))]) [0, 1, 2, 3, 4, 5] rfl
              have hD9 := hD.sub (ws' := [(qS, .inr (0, [.ref aX, .ref aY, .ref aR, .ref aL, .ref aW])), (aX, .inl (cJ, 3, .inr (.inl vX))), (aY, .inl (cJ, 3, .inr (.inl vY))), (aR, .inl (cJ, 3, .inr (.inl vR))), (aL, .inl (cJ, 3, .inr (.inl vL))), (aW, .inl (cJ, 3, .inr (.inl nW)))]) [0, 1, 2, 3, 4, 5] (by decide) rfl
              exact td_rwi nW hx hb hr rfl hlocks hK (Or.inr ⟨rfl, fun z => td_ncc (k := k) hk2 z (fun z => td_n2 c109 c120 z)⟩) hP9 hD9 hS dX0_coversPixel_124
  exact lp22 ((3 - 0) + 1) 0 vW (Nat.zero_le _) (fun t h => absurd h (Nat.not_lt_zero _)) (fun t h => absurd h (Nat.not_lt_zero _)) (Nat.lt_succ_self _) _ _ (hP.sub [0, 1, 2, 3, 4, 5] rfl) (hD.sub [0, 1, 2, 3, 4, 5] (by decide) rfl) hS ls (lv_sub hl [3, 2, 1, 0] rfl)
