set_option maxHeartbeats 4000000 in
set_option maxRecDepth 100000 in
/-- isWithin -/
theorem td_isWithin (l : Launch) (dC : Nat → ClassId) (dI : Nat → Nat → Nat) (cI cJ cZ : ClassId) (v : Int32) (lo : Int32) (hi : Int32) : Met l yX3_isWithin wsX3_isWithin ({ frames := 0, cells := 0, slots := 0, locals := 0 }) (td_RP (dC, dI) vwCl (td_T cI cJ cZ) td_nl [] [.int v, .int lo, .int hi]) (vp_Si (fun r => r = td_bz (lo ≤ v ∧ v ≤ hi))) 0 0 (fun _ => False) := by
  refine Met.ofW (cc := cX3_isWithin) (maxL := 3) (ret := (some .boolean)) (by decide) rfl ?_
  intro p e s m args below meth c s₁ B hml hv
  obtain ⟨rfl, hP, hK, hZ⟩ := hv
  have hx := B.exec
  have hb := B.bytes
  have hr := B.returns
  have hts := atoms_spec (ws := wsX3_isWithin) B.pre
  have hown : s.vm.findClass RX3 = some m.cls := findClass_of_methodNamed B.named
  have hlocks := B.notSynchronized
  have hP : va_P (dC, dI) vwCl [] s.heap := hP
  have hl := lv_entry ([.int v, .int lo, .int hi]) (n := 3) (Nat.le_of_ble_eq_true rfl)
  rw [lg_entry_eq]
  generalize (lg_sl ([.int v, .int lo, .int hi]) ++ List.replicate (3 - (lg_sl ([.int v, .int lo, .int hi])).length) Slot.unset).toArray = ls at hl ⊢
  have hl : lv_has ls 3 [(0, .int v), (1, .int lo), (2, .int hi)] := hl
  refine lv_iload_n hx hb dX3_isWithin_0 rfl (lv_at hl 0 rfl) ?_
  refine lv_iload_n hx hb dX3_isWithin_1 rfl (lv_at hl 1 rfl) ?_
  refine lv_icmp_lt (tgt := 14) hx hb dX3_isWithin_2 (by decide) (fun c2_1 => ?_) (fun c2_1 => ?_)
  · refine lv_iconst (v := 0) hx hb dX3_isWithin_14 (by decide) ?_
    exact td_rri hx hb hr rfl hlocks (by rw [td_bz0 (by simp only [td_lt32, td_le32, td_lt64, td_le64] at *; omega)]) dX3_isWithin_15
  · refine lv_iload_n hx hb dX3_isWithin_5 rfl (lv_at hl 0 rfl) ?_
    refine lv_iload_n hx hb dX3_isWithin_6 rfl (lv_at hl 2 rfl) ?_
    refine lv_icmp_gt (tgt := 14) hx hb dX3_isWithin_7 (by decide) (fun c7_2 => ?_) (fun c7_2 => ?_)
    · refine lv_iconst (v := 0) hx hb dX3_isWithin_14 (by decide) ?_
      exact td_rri hx hb hr rfl hlocks (by rw [td_bz0 (by simp only [td_lt32, td_le32, td_lt64, td_le64] at *; omega)]) dX3_isWithin_15
    · refine lv_iconst (v := 1) hx hb dX3_isWithin_10 (by decide) ?_
      refine lv_goto (tgt := 15) hx hb dX3_isWithin_11 (by decide) ?_
      exact td_rri hx hb hr rfl hlocks (by rw [td_bz1 (by simp only [td_lt32, td_le32, td_lt64, td_le64] at *; omega)]) dX3_isWithin_15
set_option maxHeartbeats 4000000 in
set_option maxRecDepth 100000 in
/-- isColour -/
theorem td_isColour (l : Launch) (dC : Nat → ClassId) (dI : Nat → Nat → Nat) (cI cJ cZ : ClassId) (v : Int32) : Met l yX3_isColour wsX3_isColour ({ frames := 1, cells := 0, slots := 0, locals := 22 }) (td_RP (dC, dI) vwCl (td_T cI cJ cZ) td_nl [] [.int v]) (vp_Si (fun r => r = td_bz (0 ≤ v ∧ v ≤ 16777215))) 0 0 (fun _ => False) := by
  refine Met.ofW (cc := cX3_isColour) (maxL := 1) (ret := (some .boolean)) (by decide) rfl ?_
  intro p e s m args below meth c s₁ B hml hv
  obtain ⟨rfl, hP, hK, hZ⟩ := hv
  have hx := B.exec
  have hb := B.bytes
  have hr := B.returns
  have hts := atoms_spec (ws := wsX3_isColour) B.pre
  have hown : s.vm.findClass RX3 = some m.cls := findClass_of_methodNamed B.named
  have hlocks := B.notSynchronized
  have hP : va_P (dC, dI) vwCl [] s.heap := hP
  have hl := lv_entry ([.int v]) (n := 1) (Nat.le_of_ble_eq_true rfl)
  rw [lg_entry_eq]
  generalize (lg_sl ([.int v]) ++ List.replicate (1 - (lg_sl ([.int v])).length) Slot.unset).toArray = ls at hl ⊢
  have hl : lv_has ls 1 [(0, .int v)] := hl
  refine lv_iload_n hx hb dX3_isColour_0 rfl (lv_at hl 0 rfl) ?_
  refine lv_iconst (v := 0) hx hb dX3_isColour_1 (by decide) ?_
  refine lv_ldc (own := RX3) (v := 16777215) hx hb hown (hts (.constant RX3 110 16777215) (td_i4 (List.mem_of_getElem? (i := 19) rfl))) dX3_isColour_2 ?_
  refine td_csi (va_runS (As := [.int v, .int 0, .int 16777215]) (rest := []) ⟨hx, hb, hml, hown, hts⟩ (td_isWithin l dC dI cI cJ cZ v 0 16777215) (va_cwS 3 hts (td_gS (td_i4 (List.mem_of_getElem? (i := 3) rfl)) (td_i4 (List.mem_of_getElem? (i := 4) rfl)) (td_i1 (List.mem_of_getElem? (i := 1) rfl)) (td_i4 (List.mem_of_getElem? (i := 5) rfl))) rfl rfl rfl (by decide +kernel) ⟨(Nat.le_of_ble_eq_true rfl), (Nat.le_of_ble_eq_true rfl)⟩) (td_pRS hK hZ hP [] rfl) rfl rfl hl.1 rfl (lv_room (Nat.le_of_ble_eq_true rfl)) dX3_isColour_4 ⟨Nat.zero_le _, Nat.zero_le _⟩) ?_
  exact td_rri hx hb hr td_bz_nar hlocks (rfl) dX3_isColour_7
set_option maxHeartbeats 4000000 in
set_option maxRecDepth 100000 in
/-- nearestSide -/
theorem td_nearestSide (l : Launch) (dC : Nat → ClassId) (dI : Nat → Nat → Nat) (cI cJ cZ : ClassId) (v : Int32) : Met l yX3_nearestSide wsX3_nearestSide ({ frames := 1, cells := 0, slots := 0, locals := 14 }) (td_RP (dC, dI) vwCl (td_T cI cJ cZ) td_nl [] [.int v]) (vp_Si (fun r => r = if 8 < (if v < 48 then v else 48) then (if v < 48 then v else 48) else 8)) 0 0 (fun _ => False) := by
  refine Met.ofW (cc := cX3_nearestSide) (maxL := 1) (ret := (some .int)) (by decide) rfl ?_
  intro p e s m args below meth c s₁ B hml hv
  obtain ⟨rfl, hP, hK, hZ⟩ := hv
  have hx := B.exec
  have hb := B.bytes
  have hr := B.returns
  have hts := atoms_spec (ws := wsX3_nearestSide) B.pre
  have hown : s.vm.findClass RX3 = some m.cls := findClass_of_methodNamed B.named
  have hlocks := B.notSynchronized
  have hP : va_P (dC, dI) vwCl [] s.heap := hP
  have hl := lv_entry ([.int v]) (n := 1) (Nat.le_of_ble_eq_true rfl)
  rw [lg_entry_eq]
  generalize (lg_sl ([.int v]) ++ List.replicate (1 - (lg_sl ([.int v])).length) Slot.unset).toArray = ls at hl ⊢
  have hl : lv_has ls 1 [(0, .int v)] := hl
  refine lv_bipush (v := 8) hx hb dX3_nearestSide_0 (by decide) ?_
  refine lv_bipush (v := 48) hx hb dX3_nearestSide_2 (by decide) ?_
  refine lv_iload_n hx hb dX3_nearestSide_4 rfl (lv_at hl 0 rfl) ?_
  refine va_mmin hx hb (by rw [hml]; exact hl.1.symm) hown (hts _ (td_i2 (List.mem_of_getElem? (i := 16) rfl))) (hts _ (td_i2 (List.mem_of_getElem? (i := 17) rfl))) (hts _ (td_i1 (List.mem_of_getElem? (i := 5) rfl))) (hts _ (td_i2 (List.mem_of_getElem? (i := 18) rfl))) (Nat.le_of_ble_eq_true rfl) (Nat.le_of_ble_eq_true rfl) (Nat.zero_le _) (Nat.zero_le _) dX3_nearestSide_5 ?_
  refine va_mmax hx hb (by rw [hml]; exact hl.1.symm) hown (hts _ (td_i2 (List.mem_of_getElem? (i := 19) rfl))) (hts _ (td_i2 (List.mem_of_getElem? (i := 20) rfl))) (hts _ (td_i1 (List.mem_of_getElem? (i := 5) rfl))) (hts _ (td_i2 (List.mem_of_getElem? (i := 21) rfl))) (Nat.le_of_ble_eq_true rfl) (Nat.le_of_ble_eq_true rfl) (Nat.zero_le _) (Nat.zero_le _) dX3_nearestSide_8 ?_
  exact td_rri hx hb hr rfl hlocks (rfl) dX3_nearestSide_11
set_option maxHeartbeats 4000000 in
set_option maxRecDepth 100000 in
/-- Math.floorDiv -/
theorem td_floorDiv (l : Launch) (dC : Nat → ClassId) (dI : Nat → Nat → Nat) (cI cJ cZ : ClassId) (a : Int64) (b : Int64) (hb0 : ¬ b = 0) : Met l yJ_floorDiv wsJ_floorDiv ({ frames := 0, cells := 0, slots := 0, locals := 0 }) (td_RP (dC, dI) vwCl (td_T cI cJ cZ) td_nl [] [.long a, .long b]) (vp_Sl (fun r => r = td_fd a b)) 0 0 (fun _ => False) := by
  refine va_MetF (cc := cJ_floorDiv) (maxL := 6) (ret := (some .long)) (by decide +kernel) rfl ?_
  intro p e s m args below meth c s₁ B hml hv
  obtain ⟨rfl, hP, hK, hZ⟩ := hv
  have hx := B.exec
  have hb := B.bytes
  have hr := B.returns
  have hts := atoms_spec (ws := wsJ_floorDiv) B.pre
  have hown : s.vm.findClass RJ = some m.cls := findClass_of_methodNamed B.named
  have hlocks := B.notSynchronized
  have hP : va_P (dC, dI) vwCl [] s.heap := hP
  have hl := lv_entry ([.long a, .long b]) (n := 6) (Nat.le_of_ble_eq_true rfl)
  rw [lg_entry_eq]
  generalize (lg_sl ([.long a, .long b]) ++ List.replicate (6 - (lg_sl ([.long a, .long b])).length) Slot.unset).toArray = ls at hl ⊢
  have hl : lv_has ls 6 [(0, .long a), (2, .long b)] := hl
  refine lv_lload_n hx hb dJ_floorDiv_0 rfl (lv_at hl 0 rfl) ?_
  refine lv_lload_n hx hb dJ_floorDiv_1 rfl (lv_at hl 1 rfl) ?_
  refine lv_ldiv hx hb dJ_floorDiv_2 (hb0) ?_
  refine lv_lstore (lv' := [(4, .long (a / b)), (0, .long a), (2, .long b)]) hx hb dJ_floorDiv_3 hl (by decide) rfl (fun ls hl => ?_)
  refine lv_lload_n hx hb dJ_floorDiv_5 rfl (lv_at hl 1 rfl) ?_
  refine lv_lload_n hx hb dJ_floorDiv_6 rfl (lv_at hl 2 rfl) ?_
  refine lv_lxor hx hb dJ_floorDiv_7 ?_
  refine lv_lconst (v := 0) hx hb dJ_floorDiv_8 (by decide) ?_
  refine W.lcmp hx hb dJ_floorDiv_9 ?_
  refine td_lge (tgt := 27) hx hb dJ_floorDiv_10 (by decide) (fun c10 => ?_) (fun c10 => ?_)
  · refine lv_lload hx hb dJ_floorDiv_27 (lv_at hl 0 rfl) ?_
    exact td_rrl hx hb hr hlocks (by unfold td_fd; rw [if_neg (fun z => absurd z.1 (Int64.not_lt.mpr c10))]) dJ_floorDiv_29
  · refine lv_lload hx hb dJ_floorDiv_13 (lv_at hl 0 rfl) ?_
    refine lv_lload_n hx hb dJ_floorDiv_15 rfl (lv_at hl 2 rfl) ?_
    refine lv_lmul hx hb dJ_floorDiv_16 ?_
    refine lv_lload_n hx hb dJ_floorDiv_17 rfl (lv_at hl 1 rfl) ?_
    refine W.lcmp hx hb dJ_floorDiv_18 ?_
    refine td_leq (tgt := 27) hx hb dJ_floorDiv_19 (by decide) (fun c19 => ?_) (fun c19 => ?_)
    · refine lv_lload hx hb dJ_floorDiv_27 (lv_at hl 0 rfl) ?_
      exact td_rrl hx hb hr hlocks (by unfold td_fd; rw [if_neg (fun z => z.2 c19)]) dJ_floorDiv_29
    · refine lv_lload hx hb dJ_floorDiv_22 (lv_at hl 0 rfl) ?_
      refine lv_lconst (v := 1) hx hb dJ_floorDiv_24 (by decide) ?_
      refine lv_lsub hx hb dJ_floorDiv_25 ?_
      exact td_rrl hx hb hr hlocks (by unfold td_fd; rw [if_pos ⟨Int64.not_le.mp c10, c19⟩]) dJ_floorDiv_26
set_option maxHeartbeats 4000000 in
set_option maxRecDepth 100000 in
/-- quotient -/
theorem td_quotient (l : Launch) (dC : Nat → ClassId) (dI : Nat → Nat → Nat) (cI cJ cZ : ClassId) (a : Int64) (b : Int64) : Met l yX3_quotient wsX3_quotient ({ frames := 1, cells := 0, slots := 0, locals := 25 }) (td_RP (dC, dI) vwCl (td_T cI cJ cZ) td_nl [] [.long a, .long b]) (vp_Sl (fun r => r = td_q a b)) 0 0 (fun _ => False) := by
  refine Met.ofW (cc := cX3_quotient) (maxL := 4) (ret := (some .long)) (by decide) rfl ?_
  intro p e s m args below meth c s₁ B hml hv
  obtain ⟨rfl, hP, hK, hZ⟩ := hv
  have hx := B.exec
  have hb := B.bytes
  have hr := B.returns
  have hts := atoms_spec (ws := wsX3_quotient) B.pre
  have hown : s.vm.findClass RX3 = some m.cls := findClass_of_methodNamed B.named
  have hlocks := B.notSynchronized
  have hP : va_P (dC, dI) vwCl [] s.heap := hP
  have hl := lv_entry ([.long a, .long b]) (n := 4) (Nat.le_of_ble_eq_true rfl)
  rw [lg_entry_eq]
  generalize (lg_sl ([.long a, .long b]) ++ List.replicate (4 - (lg_sl ([.long a, .long b])).length) Slot.unset).toArray = ls at hl ⊢
  have hl : lv_has ls 4 [(0, .long a), (2, .long b)] := hl
  refine lv_lload_n hx hb dX3_quotient_0 rfl (lv_at hl 1 rfl) ?_
  refine lv_lconst (v := 0) hx hb dX3_quotient_1 (by decide) ?_
  refine W.lcmp hx hb dX3_quotient_2 ?_
  refine td_lle (tgt := 14) hx hb dX3_quotient_3 (by decide) (fun c3 => ?_) (fun c3 => ?_)
  · refine lv_lconst (v := 0) hx hb dX3_quotient_14 (by decide) ?_
    exact td_rrl hx hb hr hlocks (by unfold td_q; rw [if_neg (fun z => absurd c3 (Int64.not_le.mpr z))]) dX3_quotient_15
  · refine lv_lload_n hx hb dX3_quotient_6 rfl (lv_at hl 0 rfl) ?_
    refine lv_lload_n hx hb dX3_quotient_7 rfl (lv_at hl 1 rfl) ?_
    refine td_csl (va_runS (As := [.long a, .long b]) (rest := []) ⟨hx, hb, hml, hown, hts⟩ (td_floorDiv l dC dI cI cJ cZ a b (fun z => c3 (by rw [z]; exact Int64.le_refl 0))) (va_cwS 2 hts (td_gS (td_i7 (List.mem_of_getElem? (i := 4) rfl)) (td_i7 (List.mem_of_getElem? (i := 5) rfl)) (td_i1 (List.mem_of_getElem? (i := 5) rfl)) (td_i7 (List.mem_of_getElem? (i := 6) rfl))) rfl rfl rfl (by decide +kernel) ⟨(Nat.le_of_ble_eq_true rfl), (Nat.le_of_ble_eq_true rfl)⟩) (td_pRS hK hZ hP [] rfl) rfl rfl hl.1 rfl (lv_room (Nat.le_of_ble_eq_true rfl)) dX3_quotient_8 ⟨Nat.zero_le _, Nat.zero_le _⟩) ?_
    refine lv_goto (tgt := 15) hx hb dX3_quotient_11 (by decide) ?_
    exact td_rrl hx hb hr hlocks (by unfold td_q; rw [if_pos (Int64.not_le.mp c3)]) dX3_quotient_15
set_option maxHeartbeats 4000000 in
set_option maxRecDepth 100000 in
/-- litColour -/
theorem td_litColour (l : Launch) (dC : Nat → ClassId) (dI : Nat → Nat → Nat) (cI cJ cZ : ClassId) (T : Nat) (Lt : Nat) (hT : T < 16777216) (hL : Lt ≤ 65536) : Met l yX3_litColour wsX3_litColour ({ frames := 2, cells := 0, slots := 0, locals := 48 }) (td_RP (dC, dI) vwCl (td_T cI cJ cZ) td_nl [] [.int (nI T), .long (lN Lt)]) (vp_Si (fun r => r = nI (td_lit T Lt))) 0 0 (fun _ => False) := by
  refine Met.ofW (cc := cX3_litColour) (maxL := 7) (ret := (some .int)) (by decide) rfl ?_
  intro p e s m args below meth c s₁ B hml hv
  obtain ⟨rfl, hP, hK, hZ⟩ := hv
  have hx := B.exec
  have hb := B.bytes
  have hr := B.returns
  have hts := atoms_spec (ws := wsX3_litColour) B.pre
  have hown : s.vm.findClass RX3 = some m.cls := findClass_of_methodNamed B.named
  have hlocks := B.notSynchronized
  have hP : va_P (dC, dI) vwCl [] s.heap := hP
  have hl := lv_entry ([.int (nI T), .long (lN Lt)]) (n := 7) (Nat.le_of_ble_eq_true rfl)
  rw [lg_entry_eq]
  generalize (lg_sl ([.int (nI T), .long (lN Lt)]) ++ List.replicate (7 - (lg_sl ([.int (nI T), .long (lN Lt)])).length) Slot.unset).toArray = ls at hl ⊢
  have hl : lv_has ls 7 [(0, .int (nI T)), (1, .long (lN Lt))] := hl
  have h0 := td_v_le (n := T % 256) (l := Lt) (by omega) hL
  have h1 := td_v_le (n := T / 256 % 256) (l := Lt) (by omega) hL
  have h2 := td_v_le (n := T / 65536) (l := Lt) (by omega) hL
  refine lv_iconst (v := 0) hx hb dX3_litColour_0 (by decide) ?_
  refine lv_istore_n (lv' := [(3, .int 0), (0, .int (nI T)), (1, .long (lN Lt))]) hx hb dX3_litColour_1 rfl hl (by decide) rfl (fun ls hl => ?_)
  refine lv_iconst (v := 0) hx hb dX3_litColour_2 (by decide) ?_
  refine lv_istore (lv' := [(4, .int 0), (3, .int 0), (0, .int (nI T)), (1, .long (lN Lt))]) hx hb dX3_litColour_3 hl (by decide) rfl (fun ls hl => ?_)
  refine lv_iload hx hb dX3_litColour_5 (lv_at hl 0 rfl) ?_
  refine lv_bipush (v := 16) hx hb dX3_litColour_7 (by decide) ?_
  refine lv_icmp_gt (tgt := 46) hx hb dX3_litColour_9 (by decide) (fun c9_1 => ?_) (fun c9_1 => ?_)
  · exact absurd c9_1 (by decide)
  · refine lv_iload_n hx hb dX3_litColour_12 rfl (lv_at hl 2 rfl) ?_
    refine lv_iload hx hb dX3_litColour_13 (lv_at hl 0 rfl) ?_
    refine lv_ishr hx hb dX3_litColour_15 ?_
    refine td_ti (nI (T / 2 ^ 0)) (pk_shrN (by omega) _ 0 (by decide)) ?_
    refine lv_sipush (v := 255) hx hb dX3_litColour_16 (by decide) ?_
    refine lv_iand hx hb dX3_litColour_19 ?_
    refine td_ti (nI (T % 256)) ((pk_andN (m := 255) (by omega) 8 (by decide)).trans (congrArg nI (by omega))) ?_
    refine lv_i2l (v := (nI (T % 256)).toInt64) hx hb dX3_litColour_20 rfl ?_
    refine td_tl (lN (T % 256)) (nI_l (by omega)) ?_
    refine lv_lstore (lv' := [(5, .long (lN (T % 256))), (4, .int 0), (3, .int 0), (0, .int (nI T)), (1, .long (lN Lt))]) hx hb dX3_litColour_21 hl (by decide) rfl (fun ls hl => ?_)
    refine lv_iload_n hx hb dX3_litColour_23 rfl (lv_at hl 2 rfl) ?_
    refine lv_lload hx hb dX3_litColour_24 (lv_at hl 0 rfl) ?_
    refine lv_lload_n hx hb dX3_litColour_26 rfl (lv_at hl 4 rfl) ?_
    refine lv_lmul hx hb dX3_litColour_27 ?_
    refine td_tl (lN ((T % 256) * Lt)) (lN_mul _ _) ?_
    refine lv_ldc2 (own := RX3) (v := 65536) hx hb hown (hts (.constantLong RX3 115 65536) (td_i10 (List.mem_of_getElem? (i := 16) rfl))) dX3_litColour_28 ?_
    refine td_csl (va_runS (As := [.long (lN ((T % 256) * Lt)), .long 65536]) (rest := [.int 0]) ⟨hx, hb, hml, hown, hts⟩ (td_quotient l dC dI cI cJ cZ (lN ((T % 256) * Lt)) 65536) (va_cwS 2 hts (td_gS (td_i10 (List.mem_of_getElem? (i := 17) rfl)) (td_i7 (List.mem_of_getElem? (i := 2) rfl)) (td_i1 (List.mem_of_getElem? (i := 1) rfl)) (td_i7 (List.mem_of_getElem? (i := 3) rfl))) rfl rfl rfl (by decide +kernel) ⟨(Nat.le_of_ble_eq_true rfl), (Nat.le_of_ble_eq_true rfl)⟩) (td_pRS hK hZ hP [] rfl) rfl rfl hl.1 rfl (lv_room (Nat.le_of_ble_eq_true rfl)) dX3_litColour_31 ⟨Nat.zero_le _, Nat.zero_le _⟩) ?_
    refine td_tl (lN (td_v (T % 256) Lt)) (td_q_nat (b := 65536) (td_nb (by omega) hL) (by decide) (by decide)) ?_
    refine lv_l2i (v := (lN (td_v (T % 256) Lt)).toInt32) hx hb dX3_litColour_34 rfl ?_
    refine td_ti (nI (td_v (T % 256) Lt)) (lN_i _) ?_
    refine lv_iload hx hb dX3_litColour_35 (lv_at hl 1 rfl) ?_
    refine lv_ishl hx hb dX3_litColour_37 ?_
    refine td_ti (nI (td_v (T % 256) Lt * 2 ^ 0)) (pk_shlN _ 0 (by decide) (by omega)) ?_
    refine lv_ior hx hb dX3_litColour_38 ?_
    refine td_ti (nI (td_v (T % 256) Lt)) ((td_or 0 _).trans (by rw [Nat.zero_or, Nat.pow_zero, Nat.mul_one])) ?_
    refine lv_istore_n (lv' := [(3, .int (nI (td_v (T % 256) Lt))), (5, .long (lN (T % 256))), (4, .int 0), (0, .int (nI T)), (1, .long (lN Lt))]) hx hb dX3_litColour_39 rfl hl (by decide) rfl (fun ls hl => ?_)
    refine lv_iinc (v := nI 8) (lv' := [(4, .int (nI 8)), (3, .int (nI (td_v (T % 256) Lt))), (5, .long (lN (T % 256))), (0, .int (nI T)), (1, .long (lN Lt))]) hx hb dX3_litColour_40 hl (k := 2) rfl (nI_add 0 8) (by decide) rfl (fun ls hl => ?_)
    refine lv_goto (tgt := 5) hx hb dX3_litColour_43 (by decide) ?_
    refine lv_iload hx hb dX3_litColour_5 (lv_at hl 0 rfl) ?_
    refine lv_bipush (v := 16) hx hb dX3_litColour_7 (by decide) ?_
    refine lv_icmp_gt (tgt := 46) hx hb dX3_litColour_9 (by decide) (fun c9_2 => ?_) (fun c9_2 => ?_)
    · exact absurd c9_2 (by decide)
    · refine lv_iload_n hx hb dX3_litColour_12 rfl (lv_at hl 3 rfl) ?_
      refine lv_iload hx hb dX3_litColour_13 (lv_at hl 0 rfl) ?_
      refine lv_ishr hx hb dX3_litColour_15 ?_
      refine td_ti (nI (T / 2 ^ 8)) (pk_shrN (by omega) _ 8 (by decide)) ?_
      refine lv_sipush (v := 255) hx hb dX3_litColour_16 (by decide) ?_
      refine lv_iand hx hb dX3_litColour_19 ?_
      refine td_ti (nI (T / 256 % 256)) ((pk_andN (m := 255) (by omega) 8 (by decide)).trans (congrArg nI (by omega))) ?_
      refine lv_i2l (v := (nI (T / 256 % 256)).toInt64) hx hb dX3_litColour_20 rfl ?_
      refine td_tl (lN (T / 256 % 256)) (nI_l (by omega)) ?_
      refine lv_lstore (lv' := [(5, .long (lN (T / 256 % 256))), (4, .int (nI 8)), (3, .int (nI (td_v (T % 256) Lt))), (0, .int (nI T)), (1, .long (lN Lt))]) hx hb dX3_litColour_21 hl (by decide) rfl (fun ls hl => ?_)
      refine lv_iload_n hx hb dX3_litColour_23 rfl (lv_at hl 2 rfl) ?_
      refine lv_lload hx hb dX3_litColour_24 (lv_at hl 0 rfl) ?_
      refine lv_lload_n hx hb dX3_litColour_26 rfl (lv_at hl 4 rfl) ?_
      refine lv_lmul hx hb dX3_litColour_27 ?_
      refine td_tl (lN ((T / 256 % 256) * Lt)) (lN_mul _ _) ?_
      refine lv_ldc2 (own := RX3) (v := 65536) hx hb hown (hts (.constantLong RX3 115 65536) (td_i10 (List.mem_of_getElem? (i := 16) rfl))) dX3_litColour_28 ?_
      refine td_csl (va_runS (As := [.long (lN ((T / 256 % 256) * Lt)), .long 65536]) (rest := [.int (nI (td_v (T % 256) Lt))]) ⟨hx, hb, hml, hown, hts⟩ (td_quotient l dC dI cI cJ cZ (lN ((T / 256 % 256) * Lt)) 65536) (va_cwS 2 hts (td_gS (td_i10 (List.mem_of_getElem? (i := 17) rfl)) (td_i7 (List.mem_of_getElem? (i := 2) rfl)) (td_i1 (List.mem_of_getElem? (i := 1) rfl)) (td_i7 (List.mem_of_getElem? (i := 3) rfl))) rfl rfl rfl (by decide +kernel) ⟨(Nat.le_of_ble_eq_true rfl), (Nat.le_of_ble_eq_true rfl)⟩) (td_pRS hK hZ hP [] rfl) rfl rfl hl.1 rfl (lv_room (Nat.le_of_ble_eq_true rfl)) dX3_litColour_31 ⟨Nat.zero_le _, Nat.zero_le _⟩) ?_
      refine td_tl (lN (td_v (T / 256 % 256) Lt)) (td_q_nat (b := 65536) (td_nb (by omega) hL) (by decide) (by decide)) ?_
      refine lv_l2i (v := (lN (td_v (T / 256 % 256) Lt)).toInt32) hx hb dX3_litColour_34 rfl ?_
      refine td_ti (nI (td_v (T / 256 % 256) Lt)) (lN_i _) ?_
      refine lv_iload hx hb dX3_litColour_35 (lv_at hl 1 rfl) ?_
      refine lv_ishl hx hb dX3_litColour_37 ?_
      refine td_ti (nI (td_v (T / 256 % 256) Lt * 2 ^ 8)) (pk_shlN _ 8 (by decide) (by omega)) ?_
      refine lv_ior hx hb dX3_litColour_38 ?_
      refine td_ti (nI (td_v (T / 256 % 256) Lt * 2 ^ 8 + td_v (T % 256) Lt)) (td_or8 8 (by omega)) ?_
      refine lv_istore_n (lv' := [(3, .int (nI (td_v (T / 256 % 256) Lt * 2 ^ 8 + td_v (T % 256) Lt))), (5, .long (lN (T / 256 % 256))), (4, .int (nI 8)), (0, .int (nI T)), (1, .long (lN Lt))]) hx hb dX3_litColour_39 rfl hl (by decide) rfl (fun ls hl => ?_)
      refine lv_iinc (v := nI 16) (lv' := [(4, .int (nI 16)), (3, .int (nI (td_v (T / 256 % 256) Lt * 2 ^ 8 + td_v (T % 256) Lt))), (5, .long (lN (T / 256 % 256))), (0, .int (nI T)), (1, .long (lN Lt))]) hx hb dX3_litColour_40 hl (k := 2) rfl (nI_add 8 8) (by decide) rfl (fun ls hl => ?_)
      refine lv_goto (tgt := 5) hx hb dX3_litColour_43 (by decide) ?_
      refine lv_iload hx hb dX3_litColour_5 (lv_at hl 0 rfl) ?_
      refine lv_bipush (v := 16) hx hb dX3_litColour_7 (by decide) ?_
      refine lv_icmp_gt (tgt := 46) hx hb dX3_litColour_9 (by decide) (fun c9_3 => ?_) (fun c9_3 => ?_)
      · exact absurd c9_3 (by decide)
      · refine lv_iload_n hx hb dX3_litColour_12 rfl (lv_at hl 3 rfl) ?_
        refine lv_iload hx hb dX3_litColour_13 (lv_at hl 0 rfl) ?_
        refine lv_ishr hx hb dX3_litColour_15 ?_
        refine td_ti (nI (T / 2 ^ 16)) (pk_shrN (by omega) _ 16 (by decide)) ?_
        refine lv_sipush (v := 255) hx hb dX3_litColour_16 (by decide) ?_
        refine lv_iand hx hb dX3_litColour_19 ?_
        refine td_ti (nI (T / 65536)) ((pk_andN (m := 255) (by omega) 8 (by decide)).trans (congrArg nI (by omega))) ?_
        refine lv_i2l (v := (nI (T / 65536)).toInt64) hx hb dX3_litColour_20 rfl ?_
        refine td_tl (lN (T / 65536)) (nI_l (by omega)) ?_
        refine lv_lstore (lv' := [(5, .long (lN (T / 65536))), (4, .int (nI 16)), (3, .int (nI (td_v (T / 256 % 256) Lt * 2 ^ 8 + td_v (T % 256) Lt))), (0, .int (nI T)), (1, .long (lN Lt))]) hx hb dX3_litColour_21 hl (by decide) rfl (fun ls hl => ?_)
        refine lv_iload_n hx hb dX3_litColour_23 rfl (lv_at hl 2 rfl) ?_
        refine lv_lload hx hb dX3_litColour_24 (lv_at hl 0 rfl) ?_
        refine lv_lload_n hx hb dX3_litColour_26 rfl (lv_at hl 4 rfl) ?_
        refine lv_lmul hx hb dX3_litColour_27 ?_
        refine td_tl (lN ((T / 65536) * Lt)) (lN_mul _ _) ?_
        refine lv_ldc2 (own := RX3) (v := 65536) hx hb hown (hts (.constantLong RX3 115 65536) (td_i10 (List.mem_of_getElem? (i := 16) rfl))) dX3_litColour_28 ?_
        refine td_csl (va_runS (As := [.long (lN ((T / 65536) * Lt)), .long 65536]) (rest := [.int (nI (td_v (T / 256 % 256) Lt * 2 ^ 8 + td_v (T % 256) Lt))]) ⟨hx, hb, hml, hown, hts⟩ (td_quotient l dC dI cI cJ cZ (lN ((T / 65536) * Lt)) 65536) (va_cwS 2 hts (td_gS (td_i10 (List.mem_of_getElem? (i := 17) rfl)) (td_i7 (List.mem_of_getElem? (i := 2) rfl)) (td_i1 (List.mem_of_getElem? (i := 1) rfl)) (td_i7 (List.mem_of_getElem? (i := 3) rfl))) rfl rfl rfl (by decide +kernel) ⟨(Nat.le_of_ble_eq_true rfl), (Nat.le_of_ble_eq_true rfl)⟩) (td_pRS hK hZ hP [] rfl) rfl rfl hl.1 rfl (lv_room (Nat.le_of_ble_eq_true rfl)) dX3_litColour_31 ⟨Nat.zero_le _, Nat.zero_le _⟩) ?_
        refine td_tl (lN (td_v (T / 65536) Lt)) (td_q_nat (b := 65536) (td_nb (by omega) hL) (by decide) (by decide)) ?_
        refine lv_l2i (v := (lN (td_v (T / 65536) Lt)).toInt32) hx hb dX3_litColour_34 rfl ?_
        refine td_ti (nI (td_v (T / 65536) Lt)) (lN_i _) ?_
        refine lv_iload hx hb dX3_litColour_35 (lv_at hl 1 rfl) ?_
        refine lv_ishl hx hb dX3_litColour_37 ?_
        refine td_ti (nI (td_v (T / 65536) Lt * 2 ^ 16)) (pk_shlN _ 16 (by decide) (by omega)) ?_
        refine lv_ior hx hb dX3_litColour_38 ?_
        refine td_ti (nI (td_v (T / 65536) Lt * 2 ^ 16 + (td_v (T / 256 % 256) Lt * 2 ^ 8 + td_v (T % 256) Lt))) (td_or8 16 (by omega)) ?_
        refine lv_istore_n (lv' := [(3, .int (nI (td_v (T / 65536) Lt * 2 ^ 16 + (td_v (T / 256 % 256) Lt * 2 ^ 8 + td_v (T % 256) Lt)))), (5, .long (lN (T / 65536))), (4, .int (nI 16)), (0, .int (nI T)), (1, .long (lN Lt))]) hx hb dX3_litColour_39 rfl hl (by decide) rfl (fun ls hl => ?_)
        refine lv_iinc (v := nI 24) (lv' := [(4, .int (nI 24)), (3, .int (nI (td_v (T / 65536) Lt * 2 ^ 16 + (td_v (T / 256 % 256) Lt * 2 ^ 8 + td_v (T % 256) Lt)))), (5, .long (lN (T / 65536))), (0, .int (nI T)), (1, .long (lN Lt))]) hx hb dX3_litColour_40 hl (k := 2) rfl (nI_add 16 8) (by decide) rfl (fun ls hl => ?_)
        refine lv_goto (tgt := 5) hx hb dX3_litColour_43 (by decide) ?_
        refine lv_iload hx hb dX3_litColour_5 (lv_at hl 0 rfl) ?_
        refine lv_bipush (v := 16) hx hb dX3_litColour_7 (by decide) ?_
        refine lv_icmp_gt (tgt := 46) hx hb dX3_litColour_9 (by decide) (fun c9_4 => ?_) (fun c9_4 => ?_)
        · refine lv_iload_n hx hb dX3_litColour_46 rfl (lv_at hl 1 rfl) ?_
          exact td_rri hx hb hr rfl hlocks (by unfold td_lit; congr 1; omega) dX3_litColour_47
        · exact absurd c9_4 (by decide)
set_option maxHeartbeats 4000000 in
set_option maxRecDepth 100000 in
/-- mixedColour -/
theorem td_mixedColour (l : Launch) (dC : Nat → ClassId) (dI : Nat → Nat → Nat) (cI cJ cZ : ClassId) (Fr : Nat) (Od : Nat) (Cv : Nat) (hF : Fr < 16777216) (hO : Od < 16777216) (hC : Cv ≤ 255) : Met l yX3_mixedColour wsX3_mixedColour ({ frames := 2, cells := 0, slots := 0, locals := 48 }) (td_RP (dC, dI) vwCl (td_T cI cJ cZ) td_nl [] [.int (nI Fr), .int (nI Od), .int (nI Cv)]) (vp_Si (fun r => r = nI (td_mix Fr Od Cv))) 0 0 (fun _ => False) := by
  refine Met.ofW (cc := cX3_mixedColour) (maxL := 11) (ret := (some .int)) (by decide) rfl ?_
  intro p e s m args below meth c s₁ B hml hv
  obtain ⟨rfl, hP, hK, hZ⟩ := hv
  have hx := B.exec
  have hb := B.bytes
  have hr := B.returns
  have hts := atoms_spec (ws := wsX3_mixedColour) B.pre
  have hown : s.vm.findClass RX3 = some m.cls := findClass_of_methodNamed B.named
  have hlocks := B.notSynchronized
  have hP : va_P (dC, dI) vwCl [] s.heap := hP
  have hl := lv_entry ([.int (nI Fr), .int (nI Od), .int (nI Cv)]) (n := 11) (Nat.le_of_ble_eq_true rfl)
  rw [lg_entry_eq]
  generalize (lg_sl ([.int (nI Fr), .int (nI Od), .int (nI Cv)]) ++ List.replicate (11 - (lg_sl ([.int (nI Fr), .int (nI Od), .int (nI Cv)])).length) Slot.unset).toArray = ls at hl ⊢
  have hl : lv_has ls 11 [(0, .int (nI Fr)), (1, .int (nI Od)), (2, .int (nI Cv))] := hl
  have h0 := td_mx_le (f := Fr % 256) (o := Od % 256) (c := Cv) (by omega) (by omega) hC
  have h1 := td_mx_le (f := Fr / 256 % 256) (o := Od / 256 % 256) (c := Cv) (by omega) (by omega) hC
  have h2 := td_mx_le (f := Fr / 65536) (o := Od / 65536) (c := Cv) (by omega) (by omega) hC
  refine lv_iconst (v := 0) hx hb dX3_mixedColour_0 (by decide) ?_
  refine lv_istore_n (lv' := [(3, .int 0), (0, .int (nI Fr)), (1, .int (nI Od)), (2, .int (nI Cv))]) hx hb dX3_mixedColour_1 rfl hl (by decide) rfl (fun ls hl => ?_)
  refine lv_iconst (v := 0) hx hb dX3_mixedColour_2 (by decide) ?_
  refine lv_istore (lv' := [(4, .int 0), (3, .int 0), (0, .int (nI Fr)), (1, .int (nI Od)), (2, .int (nI Cv))]) hx hb dX3_mixedColour_3 hl (by decide) rfl (fun ls hl => ?_)
  refine lv_iload hx hb dX3_mixedColour_5 (lv_at hl 0 rfl) ?_
  refine lv_bipush (v := 16) hx hb dX3_mixedColour_7 (by decide) ?_
  refine lv_icmp_gt (tgt := 72) hx hb dX3_mixedColour_9 (by decide) (fun c9_1 => ?_) (fun c9_1 => ?_)
  · exact absurd c9_1 (by decide)
  · refine lv_iload_n hx hb dX3_mixedColour_12 rfl (lv_at hl 2 rfl) ?_
    refine lv_iload hx hb dX3_mixedColour_13 (lv_at hl 0 rfl) ?_
    refine lv_ishr hx hb dX3_mixedColour_15 ?_
    refine td_ti (nI (Fr / 2 ^ 0)) (pk_shrN (by omega) _ 0 (by decide)) ?_
    refine lv_sipush (v := 255) hx hb dX3_mixedColour_16 (by decide) ?_
    refine lv_iand hx hb dX3_mixedColour_19 ?_
    refine td_ti (nI (Fr % 256)) ((pk_andN (m := 255) (by omega) 8 (by decide)).trans (congrArg nI (by omega))) ?_
    refine lv_i2l (v := (nI (Fr % 256)).toInt64) hx hb dX3_mixedColour_20 rfl ?_
    refine td_tl (lN (Fr % 256)) (nI_l (by omega)) ?_
    refine lv_lstore (lv' := [(5, .long (lN (Fr % 256))), (4, .int 0), (3, .int 0), (0, .int (nI Fr)), (1, .int (nI Od)), (2, .int (nI Cv))]) hx hb dX3_mixedColour_21 hl (by decide) rfl (fun ls hl => ?_)
    refine lv_iload_n hx hb dX3_mixedColour_23 rfl (lv_at hl 4 rfl) ?_
    refine lv_iload hx hb dX3_mixedColour_24 (lv_at hl 1 rfl) ?_
    refine lv_ishr hx hb dX3_mixedColour_26 ?_
    refine td_ti (nI (Od / 2 ^ 0)) (pk_shrN (by omega) _ 0 (by decide)) ?_
    refine lv_sipush (v := 255) hx hb dX3_mixedColour_27 (by decide) ?_
    refine lv_iand hx hb dX3_mixedColour_30 ?_
    refine td_ti (nI (Od % 256)) ((pk_andN (m := 255) (by omega) 8 (by decide)).trans (congrArg nI (by omega))) ?_
    refine lv_i2l (v := (nI (Od % 256)).toInt64) hx hb dX3_mixedColour_31 rfl ?_
    refine td_tl (lN (Od % 256)) (nI_l (by omega)) ?_
    refine lv_lstore (lv' := [(7, .long (lN (Od % 256))), (5, .long (lN (Fr % 256))), (4, .int 0), (3, .int 0), (0, .int (nI Fr)), (1, .int (nI Od)), (2, .int (nI Cv))]) hx hb dX3_mixedColour_32 hl (by decide) rfl (fun ls hl => ?_)
    refine lv_lload hx hb dX3_mixedColour_34 (lv_at hl 1 rfl) ?_
    refine lv_iload_n hx hb dX3_mixedColour_36 rfl (lv_at hl 6 rfl) ?_
    refine lv_i2l (v := (nI Cv).toInt64) hx hb dX3_mixedColour_37 rfl ?_
    refine td_tl (lN Cv) (nI_l (by omega)) ?_
    refine lv_lmul hx hb dX3_mixedColour_38 ?_
    refine td_tl (lN ((Fr % 256) * Cv)) (lN_mul _ _) ?_
    refine lv_lload hx hb dX3_mixedColour_39 (lv_at hl 0 rfl) ?_
    refine lv_sipush (v := 255) hx hb dX3_mixedColour_41 (by decide) ?_
    refine lv_iload_n hx hb dX3_mixedColour_44 rfl (lv_at hl 6 rfl) ?_
    refine lv_isub hx hb dX3_mixedColour_45 ?_
    refine td_ti (nI (255 - Cv)) (pk_sub (a := 255) (by omega)) ?_
    refine lv_i2l (v := (nI (255 - Cv)).toInt64) hx hb dX3_mixedColour_46 rfl ?_
    refine td_tl (lN (255 - Cv)) (nI_l (by omega)) ?_
    refine lv_lmul hx hb dX3_mixedColour_47 ?_
    refine td_tl (lN ((Od % 256) * (255 - Cv))) (lN_mul _ _) ?_
    refine lv_ladd hx hb dX3_mixedColour_48 ?_
    refine td_tl (lN ((Fr % 256) * Cv + (Od % 256) * (255 - Cv))) (lN_add _ _) ?_
    refine lv_lstore (lv' := [(9, .long (lN ((Fr % 256) * Cv + (Od % 256) * (255 - Cv)))), (7, .long (lN (Od % 256))), (5, .long (lN (Fr % 256))), (4, .int 0), (3, .int 0), (0, .int (nI Fr)), (1, .int (nI Od)), (2, .int (nI Cv))]) hx hb dX3_mixedColour_49 hl (by decide) rfl (fun ls hl => ?_)
    refine lv_iload_n hx hb dX3_mixedColour_51 rfl (lv_at hl 4 rfl) ?_
    refine lv_lload hx hb dX3_mixedColour_52 (lv_at hl 0 rfl) ?_
    refine lv_ldc2 (own := RX3) (v := 255) hx hb hown (hts (.constantLong RX3 120 255) (td_i10 (List.mem_of_getElem? (i := 20) rfl))) dX3_mixedColour_54 ?_
    refine td_csl (va_runS (As := [.long (lN ((Fr % 256) * Cv + (Od % 256) * (255 - Cv))), .long 255]) (rest := [.int 0]) ⟨hx, hb, hml, hown, hts⟩ (td_quotient l dC dI cI cJ cZ (lN ((Fr % 256) * Cv + (Od % 256) * (255 - Cv))) 255) (va_cwS 2 hts (td_gS (td_i10 (List.mem_of_getElem? (i := 17) rfl)) (td_i7 (List.mem_of_getElem? (i := 2) rfl)) (td_i1 (List.mem_of_getElem? (i := 1) rfl)) (td_i7 (List.mem_of_getElem? (i := 3) rfl))) rfl rfl rfl (by decide +kernel) ⟨(Nat.le_of_ble_eq_true rfl), (Nat.le_of_ble_eq_true rfl)⟩) (td_pRS hK hZ hP [] rfl) rfl rfl hl.1 rfl (lv_room (Nat.le_of_ble_eq_true rfl)) dX3_mixedColour_57 ⟨Nat.zero_le _, Nat.zero_le _⟩) ?_
    refine td_tl (lN (td_mx (Fr % 256) (Od % 256) Cv)) (td_q_nat (b := 255) (td_nb2 (by omega) (by omega) hC) (by decide) (by decide)) ?_
    refine lv_l2i (v := (lN (td_mx (Fr % 256) (Od % 256) Cv)).toInt32) hx hb dX3_mixedColour_60 rfl ?_
    refine td_ti (nI (td_mx (Fr % 256) (Od % 256) Cv)) (lN_i _) ?_
    refine lv_iload hx hb dX3_mixedColour_61 (lv_at hl 3 rfl) ?_
    refine lv_ishl hx hb dX3_mixedColour_63 ?_
    refine td_ti (nI (td_mx (Fr % 256) (Od % 256) Cv * 2 ^ 0)) (pk_shlN _ 0 (by decide) (by omega)) ?_
    refine lv_ior hx hb dX3_mixedColour_64 ?_
    refine td_ti (nI (td_mx (Fr % 256) (Od % 256) Cv)) ((td_or 0 _).trans (by rw [Nat.zero_or, Nat.pow_zero, Nat.mul_one])) ?_
    refine lv_istore_n (lv' := [(3, .int (nI (td_mx (Fr % 256) (Od % 256) Cv))), (9, .long (lN ((Fr % 256) * Cv + (Od % 256) * (255 - Cv)))), (7, .long (lN (Od % 256))), (5, .long (lN (Fr % 256))), (4, .int 0), (0, .int (nI Fr)), (1, .int (nI Od)), (2, .int (nI Cv))]) hx hb dX3_mixedColour_65 rfl hl (by decide) rfl (fun ls hl => ?_)
    refine lv_iinc (v := nI 8) (lv' := [(4, .int (nI 8)), (3, .int (nI (td_mx (Fr % 256) (Od % 256) Cv))), (9, .long (lN ((Fr % 256) * Cv + (Od % 256) * (255 - Cv)))), (7, .long (lN (Od % 256))), (5, .long (lN (Fr % 256))), (0, .int (nI Fr)), (1, .int (nI Od)), (2, .int (nI Cv))]) hx hb dX3_mixedColour_66 hl (k := 4) rfl (nI_add 0 8) (by decide) rfl (fun ls hl => ?_)
    refine lv_goto (tgt := 5) hx hb dX3_mixedColour_69 (by decide) ?_
    refine lv_iload hx hb dX3_mixedColour_5 (lv_at hl 0 rfl) ?_
    refine lv_bipush (v := 16) hx hb dX3_mixedColour_7 (by decide) ?_
    refine lv_icmp_gt (tgt := 72) hx hb dX3_mixedColour_9 (by decide) (fun c9_2 => ?_) (fun c9_2 => ?_)
    · exact absurd c9_2 (by decide)
    · refine lv_iload_n hx hb dX3_mixedColour_12 rfl (lv_at hl 5 rfl) ?_
      refine lv_iload hx hb dX3_mixedColour_13 (lv_at hl 0 rfl) ?_
      refine lv_ishr hx hb dX3_mixedColour_15 ?_
      refine td_ti (nI (Fr / 2 ^ 8)) (pk_shrN (by omega) _ 8 (by decide)) ?_
      refine lv_sipush (v := 255) hx hb dX3_mixedColour_16 (by decide) ?_
      refine lv_iand hx hb dX3_mixedColour_19 ?_
      refine td_ti (nI (Fr / 256 % 256)) ((pk_andN (m := 255) (by omega) 8 (by decide)).trans (congrArg nI (by omega))) ?_
      refine lv_i2l (v := (nI (Fr / 256 % 256)).toInt64) hx hb dX3_mixedColour_20 rfl ?_
      refine td_tl (lN (Fr / 256 % 256)) (nI_l (by omega)) ?_
      refine lv_lstore (lv' := [(5, .long (lN (Fr / 256 % 256))), (4, .int (nI 8)), (3, .int (nI (td_mx (Fr % 256) (Od % 256) Cv))), (9, .long (lN ((Fr % 256) * Cv + (Od % 256) * (255 - Cv)))), (7, .long (lN (Od % 256))), (0, .int (nI Fr)), (1, .int (nI Od)), (2, .int (nI Cv))]) hx hb dX3_mixedColour_21 hl (by decide) rfl (fun ls hl => ?_)
      refine lv_iload_n hx hb dX3_mixedColour_23 rfl (lv_at hl 6 rfl) ?_
      refine lv_iload hx hb dX3_mixedColour_24 (lv_at hl 1 rfl) ?_
      refine lv_ishr hx hb dX3_mixedColour_26 ?_
      refine td_ti (nI (Od / 2 ^ 8)) (pk_shrN (by omega) _ 8 (by decide)) ?_
      refine lv_sipush (v := 255) hx hb dX3_mixedColour_27 (by decide) ?_
      refine lv_iand hx hb dX3_mixedColour_30 ?_
      refine td_ti (nI (Od / 256 % 256)) ((pk_andN (m := 255) (by omega) 8 (by decide)).trans (congrArg nI (by omega))) ?_
      refine lv_i2l (v := (nI (Od / 256 % 256)).toInt64) hx hb dX3_mixedColour_31 rfl ?_
      refine td_tl (lN (Od / 256 % 256)) (nI_l (by omega)) ?_
      refine lv_lstore (lv' := [(7, .long (lN (Od / 256 % 256))), (5, .long (lN (Fr / 256 % 256))), (4, .int (nI 8)), (3, .int (nI (td_mx (Fr % 256) (Od % 256) Cv))), (9, .long (lN ((Fr % 256) * Cv + (Od % 256) * (255 - Cv)))), (0, .int (nI Fr)), (1, .int (nI Od)), (2, .int (nI Cv))]) hx hb dX3_mixedColour_32 hl (by decide) rfl (fun ls hl => ?_)
      refine lv_lload hx hb dX3_mixedColour_34 (lv_at hl 1 rfl) ?_
      refine lv_iload_n hx hb dX3_mixedColour_36 rfl (lv_at hl 7 rfl) ?_
      refine lv_i2l (v := (nI Cv).toInt64) hx hb dX3_mixedColour_37 rfl ?_
      refine td_tl (lN Cv) (nI_l (by omega)) ?_
      refine lv_lmul hx hb dX3_mixedColour_38 ?_
      refine td_tl (lN ((Fr / 256 % 256) * Cv)) (lN_mul _ _) ?_
      refine lv_lload hx hb dX3_mixedColour_39 (lv_at hl 0 rfl) ?_
      refine lv_sipush (v := 255) hx hb dX3_mixedColour_41 (by decide) ?_
      refine lv_iload_n hx hb dX3_mixedColour_44 rfl (lv_at hl 7 rfl) ?_
      refine lv_isub hx hb dX3_mixedColour_45 ?_
      refine td_ti (nI (255 - Cv)) (pk_sub (a := 255) (by omega)) ?_
      refine lv_i2l (v := (nI (255 - Cv)).toInt64) hx hb dX3_mixedColour_46 rfl ?_
      refine td_tl (lN (255 - Cv)) (nI_l (by omega)) ?_
      refine lv_lmul hx hb dX3_mixedColour_47 ?_
      refine td_tl (lN ((Od / 256 % 256) * (255 - Cv))) (lN_mul _ _) ?_
      refine lv_ladd hx hb dX3_mixedColour_48 ?_
      refine td_tl (lN ((Fr / 256 % 256) * Cv + (Od / 256 % 256) * (255 - Cv))) (lN_add _ _) ?_
      refine lv_lstore (lv' := [(9, .long (lN ((Fr / 256 % 256) * Cv + (Od / 256 % 256) * (255 - Cv)))), (7, .long (lN (Od / 256 % 256))), (5, .long (lN (Fr / 256 % 256))), (4, .int (nI 8)), (3, .int (nI (td_mx (Fr % 256) (Od % 256) Cv))), (0, .int (nI Fr)), (1, .int (nI Od)), (2, .int (nI Cv))]) hx hb dX3_mixedColour_49 hl (by decide) rfl (fun ls hl => ?_)
      refine lv_iload_n hx hb dX3_mixedColour_51 rfl (lv_at hl 4 rfl) ?_
      refine lv_lload hx hb dX3_mixedColour_52 (lv_at hl 0 rfl) ?_
      refine lv_ldc2 (own := RX3) (v := 255) hx hb hown (hts (.constantLong RX3 120 255) (td_i10 (List.mem_of_getElem? (i := 20) rfl))) dX3_mixedColour_54 ?_
      refine td_csl (va_runS (As := [.long (lN ((Fr / 256 % 256) * Cv + (Od / 256 % 256) * (255 - Cv))), .long 255]) (rest := [.int (nI (td_mx (Fr % 256) (Od % 256) Cv))]) ⟨hx, hb, hml, hown, hts⟩ (td_quotient l dC dI cI cJ cZ (lN ((Fr / 256 % 256) * Cv + (Od / 256 % 256) * (255 - Cv))) 255) (va_cwS 2 hts (td_gS (td_i10 (List.mem_of_getElem? (i := 17) rfl)) (td_i7 (List.mem_of_getElem? (i := 2) rfl)) (td_i1 (List.mem_of_getElem? (i := 1) rfl)) (td_i7 (List.mem_of_getElem? (i := 3) rfl))) rfl rfl rfl (by decide +kernel) ⟨(Nat.le_of_ble_eq_true rfl), (Nat.le_of_ble_eq_true rfl)⟩) (td_pRS hK hZ hP [] rfl) rfl rfl hl.1 rfl (lv_room (Nat.le_of_ble_eq_true rfl)) dX3_mixedColour_57 ⟨Nat.zero_le _, Nat.zero_le _⟩) ?_
      refine td_tl (lN (td_mx (Fr / 256 % 256) (Od / 256 % 256) Cv)) (td_q_nat (b := 255) (td_nb2 (by omega) (by omega) hC) (by decide) (by decide)) ?_
      refine lv_l2i (v := (lN (td_mx (Fr / 256 % 256) (Od / 256 % 256) Cv)).toInt32) hx hb dX3_mixedColour_60 rfl ?_
      refine td_ti (nI (td_mx (Fr / 256 % 256) (Od / 256 % 256) Cv)) (lN_i _) ?_
      refine lv_iload hx hb dX3_mixedColour_61 (lv_at hl 3 rfl) ?_
      refine lv_ishl hx hb dX3_mixedColour_63 ?_
      refine td_ti (nI (td_mx (Fr / 256 % 256) (Od / 256 % 256) Cv * 2 ^ 8)) (pk_shlN _ 8 (by decide) (by omega)) ?_
      refine lv_ior hx hb dX3_mixedColour_64 ?_
      refine td_ti (nI (td_mx (Fr / 256 % 256) (Od / 256 % 256) Cv * 2 ^ 8 + td_mx (Fr % 256) (Od % 256) Cv)) (td_or8 8 (by omega)) ?_
      refine lv_istore_n (lv' := [(3, .int (nI (td_mx (Fr / 256 % 256) (Od / 256 % 256) Cv * 2 ^ 8 + td_mx (Fr % 256) (Od % 256) Cv))), (9, .long (lN ((Fr / 256 % 256) * Cv + (Od / 256 % 256) * (255 - Cv)))), (7, .long (lN (Od / 256 % 256))), (5, .long (lN (Fr / 256 % 256))), (4, .int (nI 8)), (0, .int (nI Fr)), (1, .int (nI Od)), (2, .int (nI Cv))]) hx hb dX3_mixedColour_65 rfl hl (by decide) rfl (fun ls hl => ?_)
      refine lv_iinc (v := nI 16) (lv' := [(4, .int (nI 16)), (3, .int (nI (td_mx (Fr / 256 % 256) (Od / 256 % 256) Cv * 2 ^ 8 + td_mx (Fr % 256) (Od % 256) Cv))), (9, .long (lN ((Fr / 256 % 256) * Cv + (Od / 256 % 256) * (255 - Cv)))), (7, .long (lN (Od / 256 % 256))), (5, .long (lN (Fr / 256 % 256))), (0, .int (nI Fr)), (1, .int (nI Od)), (2, .int (nI Cv))]) hx hb dX3_mixedColour_66 hl (k := 4) rfl (nI_add 8 8) (by decide) rfl (fun ls hl => ?_)
      refine lv_goto (tgt := 5) hx hb dX3_mixedColour_69 (by decide) ?_
      refine lv_iload hx hb dX3_mixedColour_5 (lv_at hl 0 rfl) ?_
      refine lv_bipush (v := 16) hx hb dX3_mixedColour_7 (by decide) ?_
      refine lv_icmp_gt (tgt := 72) hx hb dX3_mixedColour_9 (by decide) (fun c9_3 => ?_) (fun c9_3 => ?_)
      · exact absurd c9_3 (by decide)
      · refine lv_iload_n hx hb dX3_mixedColour_12 rfl (lv_at hl 5 rfl) ?_
        refine lv_iload hx hb dX3_mixedColour_13 (lv_at hl 0 rfl) ?_
        refine lv_ishr hx hb dX3_mixedColour_15 ?_
        refine td_ti (nI (Fr / 2 ^ 16)) (pk_shrN (by omega) _ 16 (by decide)) ?_
        refine lv_sipush (v := 255) hx hb dX3_mixedColour_16 (by decide) ?_
        refine lv_iand hx hb dX3_mixedColour_19 ?_
        refine td_ti (nI (Fr / 65536)) ((pk_andN (m := 255) (by omega) 8 (by decide)).trans (congrArg nI (by omega))) ?_
        refine lv_i2l (v := (nI (Fr / 65536)).toInt64) hx hb dX3_mixedColour_20 rfl ?_
        refine td_tl (lN (Fr / 65536)) (nI_l (by omega)) ?_
        refine lv_lstore (lv' := [(5, .long (lN (Fr / 65536))), (4, .int (nI 16)), (3, .int (nI (td_mx (Fr / 256 % 256) (Od / 256 % 256) Cv * 2 ^ 8 + td_mx (Fr % 256) (Od % 256) Cv))), (9, .long (lN ((Fr / 256 % 256) * Cv + (Od / 256 % 256) * (255 - Cv)))), (7, .long (lN (Od / 256 % 256))), (0, .int (nI Fr)), (1, .int (nI Od)), (2, .int (nI Cv))]) hx hb dX3_mixedColour_21 hl (by decide) rfl (fun ls hl => ?_)
        refine lv_iload_n hx hb dX3_mixedColour_23 rfl (lv_at hl 6 rfl) ?_
        refine lv_iload hx hb dX3_mixedColour_24 (lv_at hl 1 rfl) ?_
        refine lv_ishr hx hb dX3_mixedColour_26 ?_
        refine td_ti (nI (Od / 2 ^ 16)) (pk_shrN (by omega) _ 16 (by decide)) ?_
        refine lv_sipush (v := 255) hx hb dX3_mixedColour_27 (by decide) ?_
        refine lv_iand hx hb dX3_mixedColour_30 ?_
        refine td_ti (nI (Od / 65536)) ((pk_andN (m := 255) (by omega) 8 (by decide)).trans (congrArg nI (by omega))) ?_
        refine lv_i2l (v := (nI (Od / 65536)).toInt64) hx hb dX3_mixedColour_31 rfl ?_
        refine td_tl (lN (Od / 65536)) (nI_l (by omega)) ?_
        refine lv_lstore (lv' := [(7, .long (lN (Od / 65536))), (5, .long (lN (Fr / 65536))), (4, .int (nI 16)), (3, .int (nI (td_mx (Fr / 256 % 256) (Od / 256 % 256) Cv * 2 ^ 8 + td_mx (Fr % 256) (Od % 256) Cv))), (9, .long (lN ((Fr / 256 % 256) * Cv + (Od / 256 % 256) * (255 - Cv)))), (0, .int (nI Fr)), (1, .int (nI Od)), (2, .int (nI Cv))]) hx hb dX3_mixedColour_32 hl (by decide) rfl (fun ls hl => ?_)
        refine lv_lload hx hb dX3_mixedColour_34 (lv_at hl 1 rfl) ?_
        refine lv_iload_n hx hb dX3_mixedColour_36 rfl (lv_at hl 7 rfl) ?_
        refine lv_i2l (v := (nI Cv).toInt64) hx hb dX3_mixedColour_37 rfl ?_
        refine td_tl (lN Cv) (nI_l (by omega)) ?_
        refine lv_lmul hx hb dX3_mixedColour_38 ?_
        refine td_tl (lN ((Fr / 65536) * Cv)) (lN_mul _ _) ?_
        refine lv_lload hx hb dX3_mixedColour_39 (lv_at hl 0 rfl) ?_
        refine lv_sipush (v := 255) hx hb dX3_mixedColour_41 (by decide) ?_
        refine lv_iload_n hx hb dX3_mixedColour_44 rfl (lv_at hl 7 rfl) ?_
        refine lv_isub hx hb dX3_mixedColour_45 ?_
        refine td_ti (nI (255 - Cv)) (pk_sub (a := 255) (by omega)) ?_
        refine lv_i2l (v := (nI (255 - Cv)).toInt64) hx hb dX3_mixedColour_46 rfl ?_
        refine td_tl (lN (255 - Cv)) (nI_l (by omega)) ?_
        refine lv_lmul hx hb dX3_mixedColour_47 ?_
        refine td_tl (lN ((Od / 65536) * (255 - Cv))) (lN_mul _ _) ?_
        refine lv_ladd hx hb dX3_mixedColour_48 ?_
        refine td_tl (lN ((Fr / 65536) * Cv + (Od / 65536) * (255 - Cv))) (lN_add _ _) ?_
        refine lv_lstore (lv' := [(9, .long (lN ((Fr / 65536) * Cv + (Od / 65536) * (255 - Cv)))), (7, .long (lN (Od / 65536))), (5, .long (lN (Fr / 65536))), (4, .int (nI 16)), (3, .int (nI (td_mx (Fr / 256 % 256) (Od / 256 % 256) Cv * 2 ^ 8 + td_mx (Fr % 256) (Od % 256) Cv))), (0, .int (nI Fr)), (1, .int (nI Od)), (2, .int (nI Cv))]) hx hb dX3_mixedColour_49 hl (by decide) rfl (fun ls hl => ?_)
        refine lv_iload_n hx hb dX3_mixedColour_51 rfl (lv_at hl 4 rfl) ?_
        refine lv_lload hx hb dX3_mixedColour_52 (lv_at hl 0 rfl) ?_
        refine lv_ldc2 (own := RX3) (v := 255) hx hb hown (hts (.constantLong RX3 120 255) (td_i10 (List.mem_of_getElem? (i := 20) rfl))) dX3_mixedColour_54 ?_
        refine td_csl (va_runS (As := [.long (lN ((Fr / 65536) * Cv + (Od / 65536) * (255 - Cv))), .long 255]) (rest := [.int (nI (td_mx (Fr / 256 % 256) (Od / 256 % 256) Cv * 2 ^ 8 + td_mx (Fr % 256) (Od % 256) Cv))]) ⟨hx, hb, hml, hown, hts⟩ (td_quotient l dC dI cI cJ cZ (lN ((Fr / 65536) * Cv + (Od / 65536) * (255 - Cv))) 255) (va_cwS 2 hts (td_gS (td_i10 (List.mem_of_getElem? (i := 17) rfl)) (td_i7 (List.mem_of_getElem? (i := 2) rfl)) (td_i1 (List.mem_of_getElem? (i := 1) rfl)) (td_i7 (List.mem_of_getElem? (i := 3) rfl))) rfl rfl rfl (by decide +kernel) ⟨(Nat.le_of_ble_eq_true rfl), (Nat.le_of_ble_eq_true rfl)⟩) (td_pRS hK hZ hP [] rfl) rfl rfl hl.1 rfl (lv_room (Nat.le_of_ble_eq_true rfl)) dX3_mixedColour_57 ⟨Nat.zero_le _, Nat.zero_le _⟩) ?_
        refine td_tl (lN (td_mx (Fr / 65536) (Od / 65536) Cv)) (td_q_nat (b := 255) (td_nb2 (by omega) (by omega) hC) (by decide) (by decide)) ?_
        refine lv_l2i (v := (lN (td_mx (Fr / 65536) (Od / 65536) Cv)).toInt32) hx hb dX3_mixedColour_60 rfl ?_
        refine td_ti (nI (td_mx (Fr / 65536) (Od / 65536) Cv)) (lN_i _) ?_
        refine lv_iload hx hb dX3_mixedColour_61 (lv_at hl 3 rfl) ?_
        refine lv_ishl hx hb dX3_mixedColour_63 ?_
        refine td_ti (nI (td_mx (Fr / 65536) (Od / 65536) Cv * 2 ^ 16)) (pk_shlN _ 16 (by decide) (by omega)) ?_
        refine lv_ior hx hb dX3_mixedColour_64 ?_
        refine td_ti (nI (td_mx (Fr / 65536) (Od / 65536) Cv * 2 ^ 16 + (td_mx (Fr / 256 % 256) (Od / 256 % 256) Cv * 2 ^ 8 + td_mx (Fr % 256) (Od % 256) Cv))) (td_or8 16 (by omega)) ?_
        refine lv_istore_n (lv' := [(3, .int (nI (td_mx (Fr / 65536) (Od / 65536) Cv * 2 ^ 16 + (td_mx (Fr / 256 % 256) (Od / 256 % 256) Cv * 2 ^ 8 + td_mx (Fr % 256) (Od % 256) Cv)))), (9, .long (lN ((Fr / 65536) * Cv + (Od / 65536) * (255 - Cv)))), (7, .long (lN (Od / 65536))), (5, .long (lN (Fr / 65536))), (4, .int (nI 16)), (0, .int (nI Fr)), (1, .int (nI Od)), (2, .int (nI Cv))]) hx hb dX3_mixedColour_65 rfl hl (by decide) rfl (fun ls hl => ?_)
        refine lv_iinc (v := nI 24) (lv' := [(4, .int (nI 24)), (3, .int (nI (td_mx (Fr / 65536) (Od / 65536) Cv * 2 ^ 16 + (td_mx (Fr / 256 % 256) (Od / 256 % 256) Cv * 2 ^ 8 + td_mx (Fr % 256) (Od % 256) Cv)))), (9, .long (lN ((Fr / 65536) * Cv + (Od / 65536) * (255 - Cv)))), (7, .long (lN (Od / 65536))), (5, .long (lN (Fr / 65536))), (0, .int (nI Fr)), (1, .int (nI Od)), (2, .int (nI Cv))]) hx hb dX3_mixedColour_66 hl (k := 4) rfl (nI_add 16 8) (by decide) rfl (fun ls hl => ?_)
        refine lv_goto (tgt := 5) hx hb dX3_mixedColour_69 (by decide) ?_
        refine lv_iload hx hb dX3_mixedColour_5 (lv_at hl 0 rfl) ?_
        refine lv_bipush (v := 16) hx hb dX3_mixedColour_7 (by decide) ?_
        refine lv_icmp_gt (tgt := 72) hx hb dX3_mixedColour_9 (by decide) (fun c9_4 => ?_) (fun c9_4 => ?_)
        · refine lv_iload_n hx hb dX3_mixedColour_72 rfl (lv_at hl 1 rfl) ?_
          exact td_rri hx hb hr rfl hlocks (by unfold td_mix; congr 1; omega) dX3_mixedColour_73
        · exact absurd c9_4 (by decide)
