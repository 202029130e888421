/-! The law's own cell(script, k), and rows for its script. -/
theorem td_six {L i : Nat} (c : ¬ nI L - 6 < nI i) (hL : L ≤ 3074) (hi : i ≤ 3080) : i + 6 ≤ L := by
  have c6 : (6 : Int32).toInt = 6 := by decide
  rw [td_lt32, nI_toInt (by omega), td_sub32 (by rw [nI_toInt (by omega), c6]; omega) (by rw [nI_toInt (by omega), c6]; omega), nI_toInt (by omega), c6] at c
  omega
theorem td_sld {p : Program} {l : Launch} {e : Env} {R : Room} {s : State} {m : MethodId} {args : Array Value} {below : List Frame} {meth : Method} {c : Code} {H H0 : Heap} {locs : List Loc} {cells slots : Nat} {Q : State → Prop} {cc : ByteArray} {pc : Nat} {ls : Array Slot} {rest : List Value} {A : Nat → Prop}
    (hx : p.tables.exec = Jvm.exec) (hb : c.code = cc) {b L : Nat} {xs : Nat → Int32} (hX : va_X b L xs s H0) (hbl : b < H0.size) (hbA : ¬ A b) (hS : va_S A H0 H locs) (j : Nat) {i : Int32} (hi : i = nI j) (hj : j < L) (hL : L < 2 ^ 31) (hdg : decode cc pc = .ok (.iaload, 1))
    (kk : W p l e R s m args below meth c H locs cells slots Q (F0 m (pc + 1) ls (.int (xs j) :: rest))) : W p l e R s m args below meth c H locs cells slots Q (F0 m pc ls (.int i :: .ref b :: rest)) := by
  subst hi
  refine va_sld hx hb hX hbl hbA hS (vp_in_nI hj hL) hdg ?_
  rw [nI_clamp (Nat.lt_trans hj hL)]
  exact kk
theorem td_pX {s : State} {H : Heap} {A : Nat → Prop} {locs : List Loc} {b L : Nat} {xs : Nat → Int32} {As : List Value} (hX : va_X b L xs s s.heap) (hbl : b < s.heap.size) (hbA : ¬ A b) (hS : va_S A s.heap H locs) : PreS s H (va_Pc As (fun U => va_X b L xs U U.heap)) As :=
  ⟨fun a U g mk q => ⟨q.1, va_X.moved (u := U) (U := U.calling g mk a) (Vm.Alike.refl U.vm) q.2⟩, fun U hU hW => ⟨rfl, by show va_X b L xs U U.heap; rw [hU]; exact (hX.kept (hS.2.1 b hbl hbA)).moved hW.alike⟩⟩
set_option maxHeartbeats 4000000 in
set_option maxRecDepth 100000 in
theorem td_cell (l : Launch) (b L : Nat) (xs : Nat → Int32) (j : Nat) (hj : j < 2) (hL : L ≤ 3074) : Met l yL_cell wsL_cell ({ frames := 0, cells := 0, slots := 0, locals := 0 }) (va_Pc [.ref b, .int (nI j)] (fun U => va_X b L xs U U.heap)) (vp_Si (fun r => r = if j < L then xs j else 0)) 0 0 (fun _ => False) := by
  refine Met.ofW (cc := cL_cell) (maxL := 2) (ret := (some .int)) (by decide) rfl ?_
  intro p e s m args below meth c s₁ B hml hv
  obtain ⟨rfl, hX⟩ := hv
  have hx := B.exec
  have hb := B.bytes
  have hr := B.returns
  have hlocks := B.notSynchronized
  have hbl : b < s.heap.size := by
    obtain ⟨scr, h1, -⟩ := hX
    exact (Array.getElem?_eq_some_iff.mp h1).1
  have hS : va_S (fun _ => False) s.heap s.heap [] := va_S.rf
  have hbA : ¬ (fun _ : Nat => False) b := fun h => h
  have hl := lv_entry ([.ref b, .int (nI j)]) (n := 2) (Nat.le_of_ble_eq_true rfl)
  rw [lg_entry_eq]
  generalize (lg_sl ([.ref b, .int (nI j)]) ++ List.replicate (2 - (lg_sl ([.ref b, .int (nI j)])).length) Slot.unset).toArray = ls at hl ⊢
  have hl : lv_has ls 2 [(0, .ref b), (1, .int (nI j))] := hl
  refine lv_iload_n hx hb dL_cell_0 rfl (lv_at hl 1 rfl) ?_
  refine lv_aload_n hx hb dL_cell_1 rfl (lv_at hl 0 rfl) ?_
  refine va_slen hx hb hX hbl hbA hS dL_cell_2 ?_
  refine lv_icmp_ge (tgt := 12) hx hb dL_cell_3 (by decide) (fun c3 => ?_) (fun c3 => ?_)
  · have h1 : L ≤ j := (nI_leI (a := L) (b := j) (by omega) (by omega)).mp c3
    refine lv_iconst (v := 0) hx hb dL_cell_12 (by decide) ?_
    exact td_rri hx hb hr rfl hlocks (by rw [if_neg (by omega)]) dL_cell_13
  · have h1 : j < L := by
      rcases Nat.lt_or_ge j L with q | q
      · exact q
      · exact absurd (nI_le q (by omega)) c3
    refine lv_aload_n hx hb dL_cell_6 rfl (lv_at hl 0 rfl) ?_
    refine lv_iload_n hx hb dL_cell_7 rfl (lv_at hl 1 rfl) ?_
    refine td_sld hx hb hX hbl hbA hS j rfl h1 (by omega) dL_cell_8 ?_
    refine lv_goto (tgt := 13) hx hb dL_cell_9 (by decide) ?_
    exact td_rri hx hb hr rfl hlocks (by rw [if_pos h1]) dL_cell_13
theorem td_mz {i n L : Nat} (h : 3081 - i < n + 1) (h6 : i + 6 ≤ L) (hL : L ≤ 3074) : 3081 - (i + 6) < n := by omega
theorem td_mz2 {i L : Nat} (h6 : i + 6 ≤ L) (hL : L ≤ 3074) : i + 6 ≤ 3080 := by omega
