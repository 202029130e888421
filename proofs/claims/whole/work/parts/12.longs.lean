/-! The machine's longs at a covered pixel; floor division; packed corners; colours by bits. -/
def td_fd (a b : Int64) : Int64 := if a ^^^ b < 0 ∧ ¬ a / b * b = a then a / b - 1 else a / b
def td_q (a b : Int64) : Int64 := if 0 < b then td_fd a b else 0
theorem td_neg64 (x : Int64) : x < 0 ↔ x.toInt < 0 := by rw [td_lt64]; exact Iff.rfl
theorem td_xneg (a b : Int64) : (a ^^^ b).toInt < 0 ↔ ¬ (a.toInt < 0 ↔ b.toInt < 0) := by
  have h1 : (a ^^^ b).toBitVec.msb = (a.toBitVec.msb ^^ b.toBitVec.msb) := by
    have : (a ^^^ b).toBitVec = a.toBitVec ^^^ b.toBitVec := rfl
    rw [this, BitVec.msb_xor]
  rw [BitVec.msb_eq_toInt, BitVec.msb_eq_toInt, BitVec.msb_eq_toInt] at h1
  have e : ∀ z : Int64, z.toBitVec.toInt = z.toInt := fun _ => rfl
  rw [e, e, e] at h1
  by_cases p : a.toInt < 0 <;> by_cases q : b.toInt < 0 <;> simp [p, q] at h1 ⊢ <;> omega
theorem td_b1 (a : Int64) : -9223372036854775808 ≤ a.toInt ∧ a.toInt < 9223372036854775808 := ⟨Int64.le_toInt a, Int64.toInt_lt a⟩
theorem td_fd_toInt {a b : Int64} (hb : 0 < b.toInt) : (td_fd a b).toInt = a.toInt / b.toInt := by
  have hm1 : b ≠ -1 := fun h => by
    rw [h] at hb
    exact absurd hb (by decide)
  have hq : (a / b).toInt = a.toInt.tdiv b.toInt := Int64.toInt_div_of_ne_right a b hm1
  have ra := td_b1 a
  have rb := td_b1 b
  have hte := Int.tdiv_eq_ediv (a := a.toInt) (b := b.toInt)
  have hx := td_xneg a b
  have hme := Int.mul_ediv_add_emod a.toInt b.toInt
  have hm0 := Int.emod_nonneg a.toInt (show b.toInt ≠ 0 by omega)
  have hm2 := Int.emod_lt_of_pos a.toInt hb
  unfold td_fd
  by_cases ha : 0 ≤ a.toInt
  · rw [if_neg (fun h => by
      have h1 := (td_neg64 _).mp h.1
      rw [hx] at h1
      exact h1 ⟨fun z => absurd ha (by omega), fun z => absurd hb (by omega)⟩), hq, hte, if_pos (Or.inl ha)]
    omega
  · have hxn : a ^^^ b < 0 := (td_neg64 _).mpr (hx.mpr (fun h => by
      have := h.mp (by omega)
      omega))
    have hs : b.toInt.sign = 1 := Int.sign_eq_one_of_pos hb
    have hdl : -9223372036854775808 ≤ a.toInt / b.toInt := by
      rcases (show a.toInt / b.toInt < -9223372036854775808 ∨ -9223372036854775808 ≤ a.toInt / b.toInt by omega) with h | h
      · have k1 := Int.mul_nonneg (a := b.toInt - 1) (b := -(a.toInt / b.toInt + 1)) (by omega) (by omega)
        have k2 : (b.toInt - 1) * -(a.toInt / b.toInt + 1) = (a.toInt / b.toInt + 1) - b.toInt * (a.toInt / b.toInt) - b.toInt := by grind
        omega
      · exact h
    have hdn : a.toInt / b.toInt < 0 := by
      rcases (show a.toInt / b.toInt < 0 ∨ 0 ≤ a.toInt / b.toInt by omega) with h | h
      · exact h
      · have := Int.mul_nonneg (Int.le_of_lt hb) h
        omega
    by_cases hd : b.toInt ∣ a.toInt
    · have e1 : (a / b).toInt = a.toInt / b.toInt := by rw [hq, hte, if_pos (Or.inr hd)]; omega
      have hmd : a.toInt / b.toInt * b.toInt = a.toInt := Int.ediv_mul_cancel hd
      rw [if_neg (fun h => h.2 (td_eq64 (by rw [td_mul64 (by rw [e1, hmd]; omega) (by rw [e1, hmd]; omega), e1, hmd]))), e1]
    · have e1 : (a / b).toInt = a.toInt / b.toInt + 1 := by rw [hq, hte, if_neg (by rintro (h | h); exact ha h; exact hd h), hs]
      have hne : ¬ a / b * b = a := fun h => hd (by
        have h2 : ((a / b) * b).toInt = a.toInt := by rw [h]
        have hl : (a.toInt / b.toInt + 1) * b.toInt = a.toInt / b.toInt * b.toInt + b.toInt := by grind
        have hc : a.toInt / b.toInt * b.toInt = b.toInt * (a.toInt / b.toInt) := Int.mul_comm _ _
        rw [td_mul64 (by rw [e1]; omega) (by rw [e1]; omega), e1] at h2
        exact ⟨a.toInt / b.toInt + 1, by rw [Int.mul_comm]; exact h2.symm⟩)
      have c1 : (1 : Int64).toInt = 1 := by decide
      rw [if_pos ⟨hxn, hne⟩, td_sub64 (by rw [e1, c1]; omega) (by rw [e1, c1]; omega), e1, c1]
      omega
theorem td_q_toInt {a b : Int64} (hb : 0 < b.toInt) : (td_q a b).toInt = a.toInt / b.toInt := by
  unfold td_q
  rw [if_pos (td_lt64.mpr (by rw [Int64.toInt_zero]; exact hb))]
  exact td_fd_toInt hb
/-- from 0 on, both divisions agree -/
theorem td_q_div {a b : Int64} (ha : 0 ≤ a.toInt) (hb : 0 < b.toInt) : td_q a b = a / b := by
  apply td_eq64
  have hm1 : b ≠ -1 := fun h => by
    rw [h] at hb
    exact absurd hb (by decide)
  rw [td_q_toInt hb, Int64.toInt_div_of_ne_right a b hm1, Int.tdiv_eq_ediv_of_nonneg ha]
theorem td_lNT {n : Nat} (h : n < 9223372036854775808) : (lN n).toInt = (n : Int) := pk_lT (by omega)
theorem td_lNof {a : Int64} {n : Nat} (h : a.toInt = (n : Int)) : a = lN n := td_eq64 (by rw [h, td_lNT (by have := (td_b1 a).2; omega)])
theorem td_q_nat {a b : Nat} (ha : a < 9223372036854775808) (h0 : 0 < b) (hb : b < 9223372036854775808) : td_q (lN a) (lN b) = lN (a / b) := by
  rw [td_q_div (by rw [td_lNT ha]; omega) (by rw [td_lNT hb]; omega)]
  exact pk_lDiv (by omega) h0 (by omega)
theorem td_xx (i : Nat) (hi : i < 48) : (lN (16 * i + 8)).toInt = td_x i ∧ -5000 ≤ td_x i ∧ td_x i ≤ 5000 := by
  rw [td_lNT (by omega)]
  unfold td_x
  omega
/-- the edges at a pixel, as longs -/
theorem td_edge {g : Nat → Int32} {a b i j : Nat} (ha : td_ok g a) (hb : td_ok g b) (hi : i < 48) (hj : j < 48) : (td_eL g a b (lN (16 * i + 8)) (lN (16 * j + 8))).toInt = td_e g a b (td_x i) (td_x j) := by
  obtain ⟨x1, x2, x3⟩ := td_xx i hi
  obtain ⟨y1, y2, y3⟩ := td_xx j hj
  have h := (td_eL_toInt (x := lN (16 * i + 8)) (y := lN (16 * j + 8)) ha hb (by omega) (by omega) (by omega) (by omega)).1
  rw [h, x1, y1]
theorem td_area {g : Nat → Int32} {a : Nat} (h0 : td_ok g a) (h1 : td_ok g (a + 4)) (h2 : td_ok g (a + 8)) : (td_AL g a).toInt = td_A g a := by
  obtain ⟨x1, x2, y1, y2, -⟩ := id h2
  have h := (td_eL_toInt (g := g) (a := a) (b := a + 4) (x := (g (a + 8)).toInt64) (y := (g (a + 8 + 1)).toInt64) h0 h1 (by rw [Int32.toInt_toInt64]; omega) (by rw [Int32.toInt_toInt64]; omega) (by rw [Int32.toInt_toInt64]; omega) (by rw [Int32.toInt_toInt64]; omega)).1
  rw [Int32.toInt_toInt64, Int32.toInt_toInt64] at h
  exact h
/-- what the machine works out where a piece covers a pixel -/
theorem td_mach {g : Nat → Int32} {a i j : Nat} (hp : td_pc g a) (hi : i < 48) (hj : j < 48) (hc : td_cov g a (td_x i) (td_x j)) {e0 e1 e2 h ls : Int64}
    (he0 : e0 = td_eL g (a + 4) (a + 8) (lN (16 * i + 8)) (lN (16 * j + 8))) (he1 : e1 = td_eL g (a + 8) a (lN (16 * i + 8)) (lN (16 * j + 8))) (he2 : e2 = td_eL g a (a + 4) (lN (16 * i + 8)) (lN (16 * j + 8)))
    (hh : h = e0 * (g (a + 2)).toInt64 + e1 * (g (a + 4 + 2)).toInt64 + e2 * (g (a + 8 + 2)).toInt64)
    (hls : ls = e0 * (g (a + 2)).toInt64 * (g (a + 3)).toInt64 + e1 * (g (a + 4 + 2)).toInt64 * (g (a + 4 + 3)).toInt64 + e2 * (g (a + 8 + 2)).toInt64 * (g (a + 8 + 3)).toInt64) :
    0 < h.toInt ∧ 0 < (td_AL g a).toInt ∧ 0 ≤ ls.toInt ∧ h / td_AL g a = lN (td_near g a (td_x i) (td_x j)) ∧ td_near g a (td_x i) (td_x j) ≤ 1048576 ∧ ls / h = lN (td_lig g a (td_x i) (td_x j)) ∧ td_lig g a (td_x i) (td_x j) ≤ 65536 := by
  obtain ⟨w0, w1, w2, v0, v1, v2, A0, A1, n0, n1, l0, l1⟩ := td_bounds hp hc
  obtain ⟨k0, k1, k2, -⟩ := id hp
  have E0 : e0.toInt = td_e g (a + 4) (a + 8) (td_x i) (td_x j) := by rw [he0]; exact td_edge k1 k2 hi hj
  have E1 : e1.toInt = td_e g (a + 8) a (td_x i) (td_x j) := by rw [he1]; exact td_edge k2 k0 hi hj
  have E2 : e2.toInt = td_e g a (a + 4) (td_x i) (td_x j) := by rw [he2]; exact td_edge k0 k1 hi hj
  have EA := td_area k0 k1 k2
  obtain ⟨-, -, -, -, r0, r0', m0, m0'⟩ := k0
  obtain ⟨-, -, -, -, r1, r1', m1, m1'⟩ := k1
  obtain ⟨-, -, -, -, r2, r2', m2, m2'⟩ := k2
  have hnum : td_num g a (td_x i) (td_x j) = td_e g (a + 4) (a + 8) (td_x i) (td_x j) * (g (a + 2)).toInt + td_e g (a + 8) a (td_x i) (td_x j) * (g (a + 4 + 2)).toInt + td_e g a (a + 4) (td_x i) (td_x j) * (g (a + 8 + 2)).toInt := rfl
  have hlsm : td_ls g a (td_x i) (td_x j) = td_e g (a + 4) (a + 8) (td_x i) (td_x j) * (g (a + 2)).toInt * (g (a + 3)).toInt + td_e g (a + 8) a (td_x i) (td_x j) * (g (a + 4 + 2)).toInt * (g (a + 4 + 3)).toInt + td_e g a (a + 4) (td_x i) (td_x j) * (g (a + 8 + 2)).toInt * (g (a + 8 + 3)).toInt := rfl
  unfold td_near td_lig
  generalize td_num g a (td_x i) (td_x j) = Nm at *
  generalize td_ls g a (td_x i) (td_x j) = Ls at *
  generalize td_A g a = Ar at *
  generalize td_AL g a = ArL at *
  generalize td_e g (a + 4) (a + 8) (td_x i) (td_x j) = W0 at *
  generalize td_e g (a + 8) a (td_x i) (td_x j) = W1 at *
  generalize td_e g a (a + 4) (td_x i) (td_x j) = W2 at *
  have p0 := td_wb w0 (by omega) r0'
  have p1 := td_wb w1 (by omega) r1'
  have p2 := td_wb w2 (by omega) r2'
  have s0 := td_wb p0.1 m0 m0'
  have s1 := td_wb p1.1 m1 m1'
  have s2 := td_wb p2.1 m2 m2'
  have P0 : (e0 * (g (a + 2)).toInt64).toInt = W0 * (g (a + 2)).toInt := by rw [td_mul64 (by rw [E0, Int32.toInt_toInt64]; omega) (by rw [E0, Int32.toInt_toInt64]; omega), E0, Int32.toInt_toInt64]
  have P1 : (e1 * (g (a + 4 + 2)).toInt64).toInt = W1 * (g (a + 4 + 2)).toInt := by rw [td_mul64 (by rw [E1, Int32.toInt_toInt64]; omega) (by rw [E1, Int32.toInt_toInt64]; omega), E1, Int32.toInt_toInt64]
  have P2 : (e2 * (g (a + 8 + 2)).toInt64).toInt = W2 * (g (a + 8 + 2)).toInt := by rw [td_mul64 (by rw [E2, Int32.toInt_toInt64]; omega) (by rw [E2, Int32.toInt_toInt64]; omega), E2, Int32.toInt_toInt64]
  have P01 : (e0 * (g (a + 2)).toInt64 + e1 * (g (a + 4 + 2)).toInt64).toInt = W0 * (g (a + 2)).toInt + W1 * (g (a + 4 + 2)).toInt := by rw [td_add64 (by rw [P0, P1]; omega) (by rw [P0, P1]; omega), P0, P1]
  have Ph : h.toInt = Nm := by rw [hh, td_add64 (by rw [P01, P2]; omega) (by rw [P01, P2]; omega), P01, P2, hnum]
  have S0 : (e0 * (g (a + 2)).toInt64 * (g (a + 3)).toInt64).toInt = W0 * (g (a + 2)).toInt * (g (a + 3)).toInt := by rw [td_mul64 (by rw [P0, Int32.toInt_toInt64]; omega) (by rw [P0, Int32.toInt_toInt64]; omega), P0, Int32.toInt_toInt64]
  have S1 : (e1 * (g (a + 4 + 2)).toInt64 * (g (a + 4 + 3)).toInt64).toInt = W1 * (g (a + 4 + 2)).toInt * (g (a + 4 + 3)).toInt := by rw [td_mul64 (by rw [P1, Int32.toInt_toInt64]; omega) (by rw [P1, Int32.toInt_toInt64]; omega), P1, Int32.toInt_toInt64]
  have S2 : (e2 * (g (a + 8 + 2)).toInt64 * (g (a + 8 + 3)).toInt64).toInt = W2 * (g (a + 8 + 2)).toInt * (g (a + 8 + 3)).toInt := by rw [td_mul64 (by rw [P2, Int32.toInt_toInt64]; omega) (by rw [P2, Int32.toInt_toInt64]; omega), P2, Int32.toInt_toInt64]
  have S01 : (e0 * (g (a + 2)).toInt64 * (g (a + 3)).toInt64 + e1 * (g (a + 4 + 2)).toInt64 * (g (a + 4 + 3)).toInt64).toInt = W0 * (g (a + 2)).toInt * (g (a + 3)).toInt + W1 * (g (a + 4 + 2)).toInt * (g (a + 4 + 3)).toInt := by rw [td_add64 (by rw [S0, S1]; omega) (by rw [S0, S1]; omega), S0, S1]
  have Pl : ls.toInt = Ls := by rw [hls, td_add64 (by rw [S01, S2]; omega) (by rw [S01, S2]; omega), S01, S2, hlsm]
  have d1 : 0 ≤ Nm / Ar := Int.ediv_nonneg (by omega) (by omega)
  have d2 : Nm / Ar ≤ 1048576 := by
    have := Int.ediv_le_of_le_mul (a := Nm) (b := 1048576) (c := Ar) A0 (by rw [Int.mul_comm]; exact n1)
    exact this
  have d3 : 0 ≤ Ls / Nm := Int.ediv_nonneg (by omega) (by omega)
  have d4 : Ls / Nm ≤ 65536 := Int.ediv_le_of_le_mul (by omega) (by rw [Int.mul_comm]; exact l1)
  have ne1 : ArL ≠ -1 := fun z => by
    rw [z] at EA
    have : ((-1 : Int64)).toInt = -1 := by decide
    omega
  have ne2 : h ≠ -1 := fun z => by
    rw [z] at Ph
    have : ((-1 : Int64)).toInt = -1 := by decide
    omega
  refine ⟨by omega, by omega, by omega, ?_, by omega, ?_, by omega⟩
  · apply td_lNof
    rw [Int64.toInt_div_of_ne_right _ _ ne1, Ph, EA, Int.tdiv_eq_ediv_of_nonneg (by omega), Int.toNat_of_nonneg d1]
  · apply td_lNof
    rw [Int64.toInt_div_of_ne_right _ _ ne2, Pl, Ph, Int.tdiv_eq_ediv_of_nonneg (by omega), Int.toNat_of_nonneg d3]
/-- colours by bits -/
theorem td_or (a b : Nat) : nI a ||| nI b = nI (a ||| b) := by
  apply Int32.toBitVec_inj.mp
  show (Int32.ofNat a).toBitVec ||| (Int32.ofNat b).toBitVec = (Int32.ofNat (a ||| b)).toBitVec
  show BitVec.ofNat 32 a ||| BitVec.ofNat 32 b = BitVec.ofNat 32 (a ||| b)
  exact BitVec.ofNat_or.symm
theorem td_or8 {a b : Nat} (k : Nat) (h : a < 2 ^ k) : nI a ||| nI (b * 2 ^ k) = nI (b * 2 ^ k + a) := by
  rw [td_or, Nat.or_comm, Nat.mul_comm, ← Nat.two_pow_add_eq_or_of_lt h]
/-- a packed corner -/
abbrev td_pk (x y r l : Int64) : Int64 := (((x + 4096) * 8193 + y + 4096) * 1048576 + r - 1) * 65537 + l
theorem td_as (a b c : Int64) : a + b - c = a + (b - c) := by rw [Int64.sub_eq_add_neg, Int64.sub_eq_add_neg, Int64.add_assoc]
theorem td_mad {a b : Int64} {A B : Nat} (M : Nat) (ha : a = lN A) (hb : b = lN B) : a * lN M + b = lN (A * M + B) := by rw [ha, hb, lN_mul, lN_add]
theorem td_pk_nat {x y r l : Int64} {X Y R L : Nat} (hx : x + 4096 = lN X) (hy : y + 4096 = lN Y) (hr : r - 1 = lN R) (hl : l = lN L) : td_pk x y r l = lN (((X * 8193 + Y) * 1048576 + R) * 65537 + L) := by
  have k1 : (8193 : Int64) = lN 8193 := rfl
  have k2 : (1048576 : Int64) = lN 1048576 := rfl
  have k3 : (65537 : Int64) = lN 65537 := rfl
  show (((x + 4096) * 8193 + y + 4096) * 1048576 + r - 1) * 65537 + l = _
  rw [Int64.add_assoc ((x + 4096) * 8193) y 4096, td_as, k1, k2, k3]
  exact td_mad 65537 (td_mad 1048576 (td_mad 8193 hx hy) hr) hl
theorem td_pd {A R M : Nat} (h : R < M) : (A * M + R) / M = A ∧ (A * M + R) % M = R := by
  have h0 : 0 < M := Nat.lt_of_le_of_lt (Nat.zero_le _) h
  constructor
  · rw [Nat.add_comm, Nat.add_mul_div_right _ _ h0, Nat.div_eq_of_lt h, Nat.zero_add]
  · rw [Nat.add_comm, Nat.add_mul_mod_self_right, Nat.mod_eq_of_lt h]
theorem td_mle {A A' R R' : Nat} (M : Nat) (h : A ≤ A') (h2 : R ≤ R') : A * M + R ≤ A' * M + R' := Nat.add_le_add (Nat.mul_le_mul_right M h) h2
theorem td_pb {X Y R L : Nat} (hX : X ≤ 8192) (hY : Y ≤ 8192) (hR : R < 1048576) (hL : L ≤ 65536) : ((X * 8193 + Y) * 1048576 + R) * 65537 + L < 2 ^ 63 ∧ (X * 8193 + Y) * 1048576 + R < 2 ^ 63 ∧ X * 8193 + Y < 2 ^ 63 := by
  have h1 : X * 8193 + Y ≤ 8192 * 8193 + 8192 := td_mle 8193 hX hY
  have h2 := td_mle 1048576 h1 (Nat.le_of_lt hR)
  have h3 := td_mle 65537 h2 hL
  exact ⟨Nat.lt_of_le_of_lt h3 (by decide), Nat.lt_of_le_of_lt h2 (by decide), Nat.lt_of_le_of_lt h1 (by decide)⟩
abbrev td_uw (p : Int64) : Int64 := p / 65537
abbrev td_up (p : Int64) : Int64 := td_uw p / 1048576
abbrev td_ux (p : Int64) : Int64 := td_up p / 8193 - 4096
abbrev td_uy (p : Int64) : Int64 := td_up p - td_up p / 8193 * 8193 - 4096
abbrev td_ur (p : Int64) : Int64 := td_uw p - td_uw p / 1048576 * 1048576 + 1
abbrev td_ul (p : Int64) : Int64 := p - p / 65537 * 65537
theorem td_unpkN {X Y R L : Nat} {P : Int64} (hX : X ≤ 8192) (hY : Y ≤ 8192) (hR : R < 1048576) (hL : L ≤ 65536) (e : P = lN (((X * 8193 + Y) * 1048576 + R) * 65537 + L)) : td_ux P = lN X - 4096 ∧ td_uy P = lN Y - 4096 ∧ td_ur P = lN R + 1 ∧ td_ul P = lN L := by
  obtain ⟨b1, b2, b3⟩ := td_pb hX hY hR hL
  have k1 : (8193 : Int64) = lN 8193 := rfl
  have k2 : (1048576 : Int64) = lN 1048576 := rfl
  have k3 : (65537 : Int64) = lN 65537 := rfl
  have s1 : 0 < 8193 := by decide
  have s2 : 0 < 1048576 := by decide
  have s3 : 0 < 65537 := by decide
  have t1 : 8193 < 2 ^ 63 := by decide
  have t2 : 1048576 < 2 ^ 63 := by decide
  have t3 : 65537 < 2 ^ 63 := by decide
  have q1 := td_pd (A := X) (R := Y) (M := 8193) (Nat.lt_of_le_of_lt hY (by decide))
  have q2 := td_pd (A := X * 8193 + Y) (R := R) (M := 1048576) hR
  have q3 := td_pd (A := (X * 8193 + Y) * 1048576 + R) (R := L) (M := 65537) (Nat.lt_of_le_of_lt hL (by decide))
  have d1 : td_uw P = lN ((X * 8193 + Y) * 1048576 + R) := by
    show P / 65537 = _
    rw [e, k3, pk_lDiv b1 s3 t3, q3.1]
  have d2 : td_up P = lN (X * 8193 + Y) := by
    show td_uw P / 1048576 = _
    rw [d1, k2, pk_lDiv b2 s2 t2, q2.1]
  refine ⟨?_, ?_, ?_, ?_⟩
  · show td_up P / 8193 - 4096 = _
    rw [d2, k1, pk_lDiv b3 s1 t1, q1.1]
  · show td_up P - td_up P / 8193 * 8193 - 4096 = _
    rw [d2, k1, pk_lRem b3 s1 t1, q1.2]
  · show td_uw P - td_uw P / 1048576 * 1048576 + 1 = _
    rw [d1, k2, pk_lRem b2 s2 t2, q2.2]
  · show P - P / 65537 * 65537 = _
    rw [e, k3, pk_lRem b1 s3 t3, q3.2]
theorem td_c4096 : (4096 : Int64).toInt = 4096 := by decide
theorem td_c1 : (1 : Int64).toInt = 1 := by decide
theorem td_unpk {x y r l : Int64} (x1 : -4096 ≤ x.toInt) (x2 : x.toInt ≤ 4096) (y1 : -4096 ≤ y.toInt) (y2 : y.toInt ≤ 4096) (r1 : 1 ≤ r.toInt) (r2 : r.toInt ≤ 1048576) (l1 : 0 ≤ l.toInt) (l2 : l.toInt ≤ 65536) :
    td_ux (td_pk x y r l) = x ∧ td_uy (td_pk x y r l) = y ∧ td_ur (td_pk x y r l) = r ∧ td_ul (td_pk x y r l) = l := by
  have hx : x + 4096 = lN (x.toInt + 4096).toNat := td_lNof (by rw [td_add64 (by rw [td_c4096]; omega) (by rw [td_c4096]; omega), td_c4096]; omega)
  have hy : y + 4096 = lN (y.toInt + 4096).toNat := td_lNof (by rw [td_add64 (by rw [td_c4096]; omega) (by rw [td_c4096]; omega), td_c4096]; omega)
  have hr : r - 1 = lN (r.toInt - 1).toNat := td_lNof (by rw [td_sub64 (by rw [td_c1]; omega) (by rw [td_c1]; omega), td_c1]; omega)
  have hl : l = lN l.toInt.toNat := td_lNof (by omega)
  obtain ⟨u1, u2, u3, u4⟩ := td_unpkN (by omega) (by omega) (by omega) (by omega) (td_pk_nat hx hy hr hl)
  refine ⟨?_, ?_, ?_, ?_⟩
  · rw [u1, ← hx]
    apply td_eq64
    have h := td_add64 (a := x) (b := 4096) (by rw [td_c4096]; omega) (by rw [td_c4096]; omega)
    rw [td_c4096] at h
    rw [td_sub64 (by rw [h, td_c4096]; omega) (by rw [h, td_c4096]; omega), h, td_c4096]; omega
  · rw [u2, ← hy]
    apply td_eq64
    have h := td_add64 (a := y) (b := 4096) (by rw [td_c4096]; omega) (by rw [td_c4096]; omega)
    rw [td_c4096] at h
    rw [td_sub64 (by rw [h, td_c4096]; omega) (by rw [h, td_c4096]; omega), h, td_c4096]; omega
  · rw [u3, ← hr]
    apply td_eq64
    have h := td_sub64 (a := r) (b := 1) (by rw [td_c1]; omega) (by rw [td_c1]; omega)
    rw [td_c1] at h
    rw [td_add64 (by rw [h, td_c1]; omega) (by rw [h, td_c1]; omega), h, td_c1]; omega
  · rw [u4, ← hl]
