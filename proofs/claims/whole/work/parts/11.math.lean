/-! Numbers: what the document asks of a piece at a pixel, in whole numbers; and what the machine's longs are then. g is the reference's row of pieces: a piece stands at a: corners at a, a + 4, a + 8 (x, y, r, light), its tint at a + 12, its cover at a + 13. -/
theorem td_bm64 {x : Int} (h1 : -9223372036854775808 ≤ x) (h2 : x < 9223372036854775808) : x.bmod (2 ^ 64) = x := Int.bmod_eq_of_le_mul_two (by omega) (by omega)
theorem td_bm32 {x : Int} (h1 : -2147483648 ≤ x) (h2 : x < 2147483648) : x.bmod (2 ^ 32) = x := Int.bmod_eq_of_le_mul_two (by omega) (by omega)
theorem td_add64 {a b : Int64} (h1 : -9223372036854775808 ≤ a.toInt + b.toInt) (h2 : a.toInt + b.toInt < 9223372036854775808) : (a + b).toInt = a.toInt + b.toInt := by rw [Int64.toInt_add, td_bm64 h1 h2]
theorem td_sub64 {a b : Int64} (h1 : -9223372036854775808 ≤ a.toInt - b.toInt) (h2 : a.toInt - b.toInt < 9223372036854775808) : (a - b).toInt = a.toInt - b.toInt := by rw [Int64.toInt_sub, td_bm64 h1 h2]
theorem td_mul64 {a b : Int64} (h1 : -9223372036854775808 ≤ a.toInt * b.toInt) (h2 : a.toInt * b.toInt < 9223372036854775808) : (a * b).toInt = a.toInt * b.toInt := by rw [Int64.toInt_mul, td_bm64 h1 h2]
theorem td_sub32 {a b : Int32} (h1 : -2147483648 ≤ a.toInt - b.toInt) (h2 : a.toInt - b.toInt < 2147483648) : (a - b).toInt = a.toInt - b.toInt := by rw [Int32.toInt_sub, td_bm32 h1 h2]
theorem td_eq64 {a b : Int64} (h : a.toInt = b.toInt) : a = b := Int64.toInt_inj.mp h
theorem td_eq32 {a b : Int32} (h : a.toInt = b.toInt) : a = b := Int32.toInt_inj.mp h
theorem td_lt64 {a b : Int64} : a < b ↔ a.toInt < b.toInt := Int64.lt_iff_toInt_lt
theorem td_le64 {a b : Int64} : a ≤ b ↔ a.toInt ≤ b.toInt := Int64.le_iff_toInt_le
theorem td_lt32 {a b : Int32} : a < b ↔ a.toInt < b.toInt := Int32.lt_iff_toInt_lt
theorem td_le32 {a b : Int32} : a ≤ b ↔ a.toInt ≤ b.toInt := Int32.le_iff_toInt_le
theorem td_s64 {a b : Int32} (h1 : -2147483648 ≤ a.toInt - b.toInt) (h2 : a.toInt - b.toInt < 2147483648) : (a - b).toInt64 = a.toInt64 - b.toInt64 := by
  apply td_eq64
  rw [Int32.toInt_toInt64, td_sub32 h1 h2, td_sub64 (by rw [Int32.toInt_toInt64, Int32.toInt_toInt64]; omega) (by rw [Int32.toInt_toInt64, Int32.toInt_toInt64]; omega), Int32.toInt_toInt64, Int32.toInt_toInt64]
/-- a product of two numbers within bounds -/
theorem td_mb {a b A B : Int} (h1 : -A ≤ a) (h2 : a ≤ A) (h3 : -B ≤ b) (h4 : b ≤ B) : -(A * B) ≤ a * b ∧ a * b ≤ A * B := by
  have hA : 0 ≤ A := by omega
  have hB : 0 ≤ B := by omega
  have k1 : 0 ≤ (A - a) * (B - b) := Int.mul_nonneg (by omega) (by omega)
  have k2 : 0 ≤ (A + a) * (B + b) := Int.mul_nonneg (by omega) (by omega)
  have k3 : 0 ≤ (A - a) * (B + b) := Int.mul_nonneg (by omega) (by omega)
  have k4 : 0 ≤ (A + a) * (B - b) := Int.mul_nonneg (by omega) (by omega)
  have e1 : (A - a) * (B - b) = A * B - A * b - a * B + a * b := by grind
  have e2 : (A + a) * (B + b) = A * B + A * b + a * B + a * b := by grind
  have e3 : (A - a) * (B + b) = A * B + A * b - a * B - a * b := by grind
  have e4 : (A + a) * (B - b) = A * B - A * b + a * B - a * b := by grind
  constructor <;> omega
abbrev td_e (g : Nat → Int32) (a b : Nat) (x y : Int) : Int := ((g b).toInt - (g a).toInt) * (y - (g (a + 1)).toInt) - ((g (b + 1)).toInt - (g (a + 1)).toInt) * (x - (g a).toInt)
abbrev td_eL (g : Nat → Int32) (a b : Nat) (x y : Int64) : Int64 := (g b - g a).toInt64 * (y - (g (a + 1)).toInt64) - (g (b + 1) - g (a + 1)).toInt64 * (x - (g a).toInt64)
def td_ok (g : Nat → Int32) (a : Nat) : Prop := -4096 ≤ (g a).toInt ∧ (g a).toInt ≤ 4096 ∧ -4096 ≤ (g (a + 1)).toInt ∧ (g (a + 1)).toInt ≤ 4096 ∧ 1 ≤ (g (a + 2)).toInt ∧ (g (a + 2)).toInt ≤ 1048576 ∧ 0 ≤ (g (a + 3)).toInt ∧ (g (a + 3)).toInt ≤ 65536
theorem td_eL_toInt {g : Nat → Int32} {a b : Nat} {x y : Int64} (ha : td_ok g a) (hb : td_ok g b) (hx1 : -5000 ≤ x.toInt) (hx2 : x.toInt ≤ 5000) (hy1 : -5000 ≤ y.toInt) (hy2 : y.toInt ≤ 5000) :
    (td_eL g a b x y).toInt = td_e g a b x.toInt y.toInt ∧ -200000000 ≤ td_e g a b x.toInt y.toInt ∧ td_e g a b x.toInt y.toInt ≤ 200000000 := by
  obtain ⟨a1, a2, a3, a4, -⟩ := ha
  obtain ⟨b1, b2, b3, b4, -⟩ := hb
  have i1 : (g b - g a).toInt64.toInt = (g b).toInt - (g a).toInt := by rw [Int32.toInt_toInt64, td_sub32 (by omega) (by omega)]
  have i2 : (g (b + 1) - g (a + 1)).toInt64.toInt = (g (b + 1)).toInt - (g (a + 1)).toInt := by rw [Int32.toInt_toInt64, td_sub32 (by omega) (by omega)]
  have i3 : (y - (g (a + 1)).toInt64).toInt = y.toInt - (g (a + 1)).toInt := by rw [td_sub64 (by rw [Int32.toInt_toInt64]; omega) (by rw [Int32.toInt_toInt64]; omega), Int32.toInt_toInt64]
  have i4 : (x - (g a).toInt64).toInt = x.toInt - (g a).toInt := by rw [td_sub64 (by rw [Int32.toInt_toInt64]; omega) (by rw [Int32.toInt_toInt64]; omega), Int32.toInt_toInt64]
  have p1 := td_mb (a := (g b).toInt - (g a).toInt) (b := y.toInt - (g (a + 1)).toInt) (A := 8192) (B := 9096) (by omega) (by omega) (by omega) (by omega)
  have p2 := td_mb (a := (g (b + 1)).toInt - (g (a + 1)).toInt) (b := x.toInt - (g a).toInt) (A := 8192) (B := 9096) (by omega) (by omega) (by omega) (by omega)
  have m1 : ((g b - g a).toInt64 * (y - (g (a + 1)).toInt64)).toInt = ((g b).toInt - (g a).toInt) * (y.toInt - (g (a + 1)).toInt) := by rw [td_mul64 (by rw [i1, i3]; omega) (by rw [i1, i3]; omega), i1, i3]
  have m2 : ((g (b + 1) - g (a + 1)).toInt64 * (x - (g a).toInt64)).toInt = ((g (b + 1)).toInt - (g (a + 1)).toInt) * (x.toInt - (g a).toInt) := by rw [td_mul64 (by rw [i2, i4]; omega) (by rw [i2, i4]; omega), i2, i4]
  refine ⟨?_, ?_, ?_⟩
  · show (_ - _ : Int64).toInt = _
    rw [td_sub64 (by rw [m1, m2]; omega) (by rw [m1, m2]; omega), m1, m2]
  · show -200000000 ≤ _ - _
    omega
  · show _ - _ ≤ (200000000 : Int)
    omega
abbrev td_A (g : Nat → Int32) (a : Nat) : Int := td_e g a (a + 4) (g (a + 8)).toInt (g (a + 8 + 1)).toInt
abbrev td_AL (g : Nat → Int32) (a : Nat) : Int64 := td_eL g a (a + 4) (g (a + 8)).toInt64 (g (a + 8 + 1)).toInt64
abbrev td_h (g : Nat → Int32) (a b : Nat) (x y : Int) : Prop := 0 < td_e g a b x y ∨ td_e g a b x y = 0 ∧ ((g (b + 1)).toInt < (g (a + 1)).toInt ∨ (g (b + 1)).toInt = (g (a + 1)).toInt ∧ (g a).toInt < (g b).toInt)
abbrev td_cov (g : Nat → Int32) (a : Nat) (x y : Int) : Prop := td_h g (a + 4) (a + 8) x y ∧ td_h g (a + 8) a x y ∧ td_h g a (a + 4) x y
def td_pc (g : Nat → Int32) (a : Nat) : Prop := td_ok g a ∧ td_ok g (a + 4) ∧ td_ok g (a + 8) ∧ 0 < td_A g a ∧ 0 ≤ (g (a + 12)).toInt ∧ (g (a + 12)).toInt < 16777216 ∧ 0 ≤ (g (a + 13)).toInt ∧ (g (a + 13)).toInt ≤ 255
abbrev td_num (g : Nat → Int32) (a : Nat) (x y : Int) : Int := td_e g (a + 4) (a + 8) x y * (g (a + 2)).toInt + td_e g (a + 8) a x y * (g (a + 4 + 2)).toInt + td_e g a (a + 4) x y * (g (a + 8 + 2)).toInt
abbrev td_ls (g : Nat → Int32) (a : Nat) (x y : Int) : Int := td_e g (a + 4) (a + 8) x y * (g (a + 2)).toInt * (g (a + 3)).toInt + td_e g (a + 8) a x y * (g (a + 4 + 2)).toInt * (g (a + 4 + 3)).toInt + td_e g a (a + 4) x y * (g (a + 8 + 2)).toInt * (g (a + 8 + 3)).toInt
theorem td_sum (g : Nat → Int32) (a : Nat) (x y : Int) : td_e g (a + 4) (a + 8) x y + td_e g (a + 8) a x y + td_e g a (a + 4) x y = td_A g a := by
  show _ = ((g (a + 4)).toInt - (g a).toInt) * ((g (a + 8 + 1)).toInt - (g (a + 1)).toInt) - ((g (a + 4 + 1)).toInt - (g (a + 1)).toInt) * ((g (a + 8)).toInt - (g a).toInt)
  grind
theorem td_momX (g : Nat → Int32) (a : Nat) (x y : Int) : td_e g (a + 4) (a + 8) x y * ((g a).toInt - x) + td_e g (a + 8) a x y * ((g (a + 4)).toInt - x) + td_e g a (a + 4) x y * ((g (a + 8)).toInt - x) = 0 := by
  show (_ - _) * _ + (_ - _) * _ + (_ - _) * _ = (0 : Int)
  grind
theorem td_momY (g : Nat → Int32) (a : Nat) (x y : Int) : td_e g (a + 4) (a + 8) x y * ((g (a + 1)).toInt - y) + td_e g (a + 8) a x y * ((g (a + 4 + 1)).toInt - y) + td_e g a (a + 4) x y * ((g (a + 8 + 1)).toInt - y) = 0 := by
  show (_ - _) * _ + (_ - _) * _ + (_ - _) * _ = (0 : Int)
  grind
/-- three numbers' weighed sum, all weights from 0 on, is not above what the greatest gives -/
theorem td_ub {u c D : Int} (h1 : 0 ≤ u) (h2 : u ≤ D) : u * c ≤ D * (if 0 ≤ c then c else 0) := by
  by_cases h : 0 ≤ c
  · rw [if_pos h]; exact Int.mul_le_mul_of_nonneg_right h2 h
  · rw [if_neg h]
    have : 0 ≤ u * (-c) := Int.mul_nonneg h1 (by omega)
    have e : u * (-c) = -(u * c) := Int.mul_neg u c
    omega
theorem td_areaLe {g : Nat → Int32} {a : Nat} (h0 : td_ok g a) (h1 : td_ok g (a + 4)) (h2 : td_ok g (a + 8)) : td_A g a ≤ 67108864 := by
  obtain ⟨x0, x0', y0, y0', -⟩ := h0
  obtain ⟨x1, x1', y1, y1', -⟩ := h1
  obtain ⟨x2, x2', y2, y2', -⟩ := h2
  show ((g (a + 4)).toInt - (g a).toInt) * ((g (a + 8 + 1)).toInt - (g (a + 1)).toInt) - ((g (a + 4 + 1)).toInt - (g (a + 1)).toInt) * ((g (a + 8)).toInt - (g a).toInt) ≤ _
  generalize (g a).toInt = X0 at *
  generalize (g (a + 1)).toInt = Y0 at *
  generalize (g (a + 4)).toInt = X1 at *
  generalize (g (a + 4 + 1)).toInt = Y1 at *
  generalize (g (a + 8)).toInt = X2 at *
  generalize (g (a + 8 + 1)).toInt = Y2 at *
  have e : (X1 - X0) * (Y2 - Y0) - (Y1 - Y0) * (X2 - X0) = (X0 + 4096) * (Y1 - Y2) + (X1 + 4096) * (Y2 - Y0) + (X2 + 4096) * (Y0 - Y1) := by grind
  have k0 := td_ub (u := X0 + 4096) (c := Y1 - Y2) (D := 8192) (by omega) (by omega)
  have k1 := td_ub (u := X1 + 4096) (c := Y2 - Y0) (D := 8192) (by omega) (by omega)
  have k2 := td_ub (u := X2 + 4096) (c := Y0 - Y1) (D := 8192) (by omega) (by omega)
  rw [e]
  split at k0 <;> split at k1 <;> split at k2 <;> omega
/-- a weight times what lies within 0 .. B -/
theorem td_wb {w r B : Int} (hw : 0 ≤ w) (h1 : 0 ≤ r) (h2 : r ≤ B) : 0 ≤ w * r ∧ w * r ≤ w * B := ⟨Int.mul_nonneg hw h1, Int.mul_le_mul_of_nonneg_left h2 hw⟩
theorem td_wge {w r : Int} (hw : 0 ≤ w) (h1 : 1 ≤ r) : w ≤ w * r := by
  have := Int.mul_le_mul_of_nonneg_left h1 hw
  omega
/-- what holds where a piece covers a pixel -/
theorem td_bounds {g : Nat → Int32} {a : Nat} {x y : Int} (hp : td_pc g a) (hc : td_cov g a x y) :
    0 ≤ td_e g (a + 4) (a + 8) x y ∧ 0 ≤ td_e g (a + 8) a x y ∧ 0 ≤ td_e g a (a + 4) x y ∧ td_e g (a + 4) (a + 8) x y ≤ td_A g a ∧ td_e g (a + 8) a x y ≤ td_A g a ∧ td_e g a (a + 4) x y ≤ td_A g a ∧ 0 < td_A g a ∧ td_A g a ≤ 67108864 ∧
    td_A g a ≤ td_num g a x y ∧ td_num g a x y ≤ td_A g a * 1048576 ∧ 0 ≤ td_ls g a x y ∧ td_ls g a x y ≤ td_num g a x y * 65536 := by
  obtain ⟨k0, k1, k2, hA, -⟩ := hp
  have hle := td_areaLe k0 k1 k2
  have hs := td_sum g a x y
  obtain ⟨c0, c1, c2⟩ := hc
  have w0 : 0 ≤ td_e g (a + 4) (a + 8) x y := by rcases c0 with h | h <;> omega
  have w1 : 0 ≤ td_e g (a + 8) a x y := by rcases c1 with h | h <;> omega
  have w2 : 0 ≤ td_e g a (a + 4) x y := by rcases c2 with h | h <;> omega
  obtain ⟨-, -, -, -, r0, r0', l0, l0'⟩ := k0
  obtain ⟨-, -, -, -, r1, r1', l1, l1'⟩ := k1
  obtain ⟨-, -, -, -, r2, r2', l2, l2'⟩ := k2
  unfold td_num td_ls
  generalize td_e g (a + 4) (a + 8) x y = W0 at *
  generalize td_e g (a + 8) a x y = W1 at *
  generalize td_e g a (a + 4) x y = W2 at *
  generalize td_A g a = Ar at *
  have p0 := td_wb w0 (by omega) r0'
  have p1 := td_wb w1 (by omega) r1'
  have p2 := td_wb w2 (by omega) r2'
  have q0 := td_wge w0 r0
  have q1 := td_wge w1 r1
  have q2 := td_wge w2 r2
  have s0 := td_wb p0.1 l0 l0'
  have s1 := td_wb p1.1 l1 l1'
  have s2 := td_wb p2.1 l2 l2'
  refine ⟨w0, w1, w2, by omega, by omega, by omega, hA, hle, by omega, ?_, by omega, ?_⟩
  · have : Ar * 1048576 = W0 * 1048576 + W1 * 1048576 + W2 * 1048576 := by omega
    omega
  · omega
/-- a covered pixel's middle lies within the box round the piece -/
theorem td_box {w0 w1 w2 d0 d1 d2 : Int} (h0 : 0 ≤ w0) (h1 : 0 ≤ w1) (h2 : 0 ≤ w2) (hs : 0 < w0 + w1 + w2) (hm : w0 * d0 + w1 * d1 + w2 * d2 = 0) : (d0 ≤ 0 ∨ d1 ≤ 0 ∨ d2 ≤ 0) ∧ (0 ≤ d0 ∨ 0 ≤ d1 ∨ 0 ≤ d2) := by
  constructor
  · rcases (show 0 < d0 ∨ d0 ≤ 0 by omega) with a | a
    · rcases (show 0 < d1 ∨ d1 ≤ 0 by omega) with b | b
      · rcases (show 0 < d2 ∨ d2 ≤ 0 by omega) with c | c
        · have := td_wge h0 (r := d0) (by omega)
          have := td_wge h1 (r := d1) (by omega)
          have := td_wge h2 (r := d2) (by omega)
          omega
        · omega
      · omega
    · omega
  · rcases (show d0 < 0 ∨ 0 ≤ d0 by omega) with a | a
    · rcases (show d1 < 0 ∨ 0 ≤ d1 by omega) with b | b
      · rcases (show d2 < 0 ∨ 0 ≤ d2 by omega) with c | c
        · have := td_wge h0 (r := -d0) (by omega)
          have := td_wge h1 (r := -d1) (by omega)
          have := td_wge h2 (r := -d2) (by omega)
          have e0 := Int.mul_neg w0 d0
          have e1 := Int.mul_neg w1 d1
          have e2 := Int.mul_neg w2 d2
          omega
        · omega
      · omega
    · omega
/-- colours -/
def td_v (n l : Nat) : Nat := n * l / 65536
def td_lit (t l : Nat) : Nat := (td_v (t / 65536) l * 256 + td_v (t / 256 % 256) l) * 256 + td_v (t % 256) l
def td_mx (f o c : Nat) : Nat := (f * c + o * (255 - c)) / 255
def td_mix (f o c : Nat) : Nat := (td_mx (f / 65536) (o / 65536) c * 256 + td_mx (f / 256 % 256) (o / 256 % 256) c) * 256 + td_mx (f % 256) (o % 256) c
def td_ov (t l c o : Nat) : Nat := if c = 255 then td_lit t l else td_mix (td_lit t l) o c
def td_near (g : Nat → Int32) (a : Nat) (x y : Int) : Nat := (td_num g a x y / td_A g a).toNat
def td_lig (g : Nat → Int32) (a : Nat) (x y : Int) : Nat := (td_ls g a x y / td_num g a x y).toNat
def td_x (i : Nat) : Int := 16 * (i : Int) + 8
/-- one piece at one pixel, on what is there -/
def td_stp (g : Nat → Int32) (a i j : Nat) (q : Nat × Nat) : Nat × Nat :=
  if td_cov g a (td_x i) (td_x j) then
    if td_near g a (td_x i) (td_x j) ≤ q.2 then q
    else (td_ov (g (a + 12)).toInt.toNat (td_lig g a (td_x i) (td_x j)) (g (a + 13)).toInt.toNat q.1, if (g (a + 13)).toInt.toNat = 255 then td_near g a (td_x i) (td_x j) else q.2)
  else q
/-- a pixel behind n pieces -/
def td_px (g : Nat → Int32) (bg i j : Nat) : Nat → Nat × Nat
  | 0 => (bg, 0)
  | n + 1 => td_stp g (14 * n) i j (td_px g bg i j n)
theorem td_v_le {n l : Nat} (hn : n < 256) (hl : l ≤ 65536) : td_v n l < 256 := by
  unfold td_v
  have : n * l ≤ n * 65536 := Nat.mul_le_mul_left n hl
  omega
theorem td_mx_le {f o c : Nat} (hf : f < 256) (ho : o < 256) (hc : c ≤ 255) : td_mx f o c < 256 := by
  unfold td_mx
  have h1 : f * c ≤ 255 * c := Nat.mul_le_mul_right c (by omega)
  have h2 : o * (255 - c) ≤ 255 * (255 - c) := Nat.mul_le_mul_right (255 - c) (by omega)
  omega
theorem td_lit_le {t l : Nat} (ht : t < 16777216) (hl : l ≤ 65536) : td_lit t l < 16777216 := by
  unfold td_lit
  have h0 := td_v_le (n := t / 65536) (l := l) (by omega) hl
  have h1 := td_v_le (n := t / 256 % 256) (l := l) (by omega) hl
  have h2 := td_v_le (n := t % 256) (l := l) (by omega) hl
  omega
theorem td_mix_le {f o c : Nat} (hf : f < 16777216) (ho : o < 16777216) (hc : c ≤ 255) : td_mix f o c < 16777216 := by
  unfold td_mix
  have h0 := td_mx_le (f := f / 65536) (o := o / 65536) (c := c) (by omega) (by omega) hc
  have h1 := td_mx_le (f := f / 256 % 256) (o := o / 256 % 256) (c := c) (by omega) (by omega) hc
  have h2 := td_mx_le (f := f % 256) (o := o % 256) (c := c) (by omega) (by omega) hc
  omega
theorem td_ov_le {t l c o : Nat} (ht : t < 16777216) (hl : l ≤ 65536) (hc : c ≤ 255) (ho : o < 16777216) : td_ov t l c o < 16777216 := by
  unfold td_ov
  split
  · exact td_lit_le ht hl
  · exact td_mix_le (td_lit_le ht hl) ho hc
