/-! The class's corners, unpacked, are those of the piece at a in g: what it works out at a pixel is what the document asks. -/
def td_sc (g : Nat → Int32) (a : Nat) (X Y R L : Nat → Int64) : Prop := (X 0 = (g a).toInt64 ∧ X 1 = (g (a + 4)).toInt64 ∧ X 2 = (g (a + 8)).toInt64) ∧ (Y 0 = (g (a + 1)).toInt64 ∧ Y 1 = (g (a + 4 + 1)).toInt64 ∧ Y 2 = (g (a + 8 + 1)).toInt64) ∧ (R 0 = (g (a + 2)).toInt64 ∧ R 1 = (g (a + 4 + 2)).toInt64 ∧ R 2 = (g (a + 8 + 2)).toInt64) ∧ (L 0 = (g (a + 3)).toInt64 ∧ L 1 = (g (a + 4 + 3)).toInt64 ∧ L 2 = (g (a + 8 + 3)).toInt64)
theorem td_eLs {g : Nat → Int32} {a b : Nat} {x y : Int64} (ha : td_ok g a) (hb : td_ok g b) : td_eL g a b x y = ((g b).toInt64 - (g a).toInt64) * (y - (g (a + 1)).toInt64) - ((g (b + 1)).toInt64 - (g (a + 1)).toInt64) * (x - (g a).toInt64) := by
  obtain ⟨a1, a2, a3, a4, -⟩ := ha
  obtain ⟨b1, b2, b3, b4, -⟩ := hb
  show (g b - g a).toInt64 * _ - (g (b + 1) - g (a + 1)).toInt64 * _ = _
  rw [td_s64 (by omega) (by omega), td_s64 (by omega) (by omega)]
theorem td_ce0 {g : Nat → Int32} {a : Nat} {X Y R L : Nat → Int64} {x y : Int64} (hp : td_pc g a) (hs : td_sc g a X Y R L) : td_ce X Y 0 x y = td_eL g (a + 4) (a + 8) x y := by
  obtain ⟨⟨x0, x1, x2⟩, ⟨y0, y1, y2⟩, -⟩ := hs
  rw [td_eLs hp.2.1 hp.2.2.1]
  show (X 2 - X 1) * (y - Y 1) - (Y 2 - Y 1) * (x - X 1) = _
  rw [x1, x2, y1, y2]
theorem td_ce1 {g : Nat → Int32} {a : Nat} {X Y R L : Nat → Int64} {x y : Int64} (hp : td_pc g a) (hs : td_sc g a X Y R L) : td_ce X Y 1 x y = td_eL g (a + 8) a x y := by
  obtain ⟨⟨x0, x1, x2⟩, ⟨y0, y1, y2⟩, -⟩ := hs
  rw [td_eLs hp.2.2.1 hp.1]
  show (X 0 - X 2) * (y - Y 2) - (Y 0 - Y 2) * (x - X 2) = _
  rw [x0, x2, y0, y2]
theorem td_ce2 {g : Nat → Int32} {a : Nat} {X Y R L : Nat → Int64} {x y : Int64} (hp : td_pc g a) (hs : td_sc g a X Y R L) : td_ce X Y 2 x y = td_eL g a (a + 4) x y := by
  obtain ⟨⟨x0, x1, x2⟩, ⟨y0, y1, y2⟩, -⟩ := hs
  rw [td_eLs hp.1 hp.2.1]
  show (X 1 - X 0) * (y - Y 0) - (Y 1 - Y 0) * (x - X 0) = _
  rw [x0, x1, y0, y1]
theorem td_hL {g : Nat → Int32} {a b i j : Nat} (ha : td_ok g a) (hb : td_ok g b) (hi : i < 48) (hj : j < 48) {xa xb ya yb : Int64} (h1 : xa = (g a).toInt64) (h2 : xb = (g b).toInt64) (h3 : ya = (g (a + 1)).toInt64) (h4 : yb = (g (b + 1)).toInt64) :
    (0 < td_eL g a b (lN (16 * i + 8)) (lN (16 * j + 8)) ∨ td_eL g a b (lN (16 * i + 8)) (lN (16 * j + 8)) = 0 ∧ (yb < ya ∨ yb = ya ∧ xa < xb)) ↔ td_h g a b (td_x i) (td_x j) := by
  have e := td_edge ha hb hi hj
  have z : (0 : Int64).toInt = 0 := rfl
  have q1 : (0 < td_eL g a b (lN (16 * i + 8)) (lN (16 * j + 8))) ↔ 0 < td_e g a b (td_x i) (td_x j) := by rw [td_lt64, e, z]
  have q2 : (td_eL g a b (lN (16 * i + 8)) (lN (16 * j + 8)) = 0) ↔ td_e g a b (td_x i) (td_x j) = 0 := by rw [← e]; exact ⟨fun h => by rw [h]; rfl, fun h => td_eq64 h⟩
  have q3 : yb < ya ↔ (g (b + 1)).toInt < (g (a + 1)).toInt := by rw [td_lt64, h3, h4, Int32.toInt_toInt64, Int32.toInt_toInt64]
  have q4 : yb = ya ↔ (g (b + 1)).toInt = (g (a + 1)).toInt := by
    rw [h3, h4]
    exact ⟨fun h => by have := congrArg Int64.toInt h; rw [Int32.toInt_toInt64, Int32.toInt_toInt64] at this; exact this, fun h => td_eq64 (by rw [Int32.toInt_toInt64, Int32.toInt_toInt64]; exact h)⟩
  have q5 : xa < xb ↔ (g a).toInt < (g b).toInt := by rw [td_lt64, h1, h2, Int32.toInt_toInt64, Int32.toInt_toInt64]
  show _ ↔ (0 < td_e g a b (td_x i) (td_x j) ∨ td_e g a b (td_x i) (td_x j) = 0 ∧ ((g (b + 1)).toInt < (g (a + 1)).toInt ∨ (g (b + 1)).toInt = (g (a + 1)).toInt ∧ (g a).toInt < (g b).toInt))
  rw [q1, q2, q3, q4, q5]
theorem td_cc_cov {g : Nat → Int32} {a i j : Nat} {X Y R L : Nat → Int64} (hp : td_pc g a) (hs : td_sc g a X Y R L) (hi : i < 48) (hj : j < 48) : td_cc3 X Y (lN (16 * i + 8)) (lN (16 * j + 8)) ↔ td_cov g a (td_x i) (td_x j) := by
  have e0 := td_ce0 (x := lN (16 * i + 8)) (y := lN (16 * j + 8)) hp hs
  have e1 := td_ce1 (x := lN (16 * i + 8)) (y := lN (16 * j + 8)) hp hs
  have e2 := td_ce2 (x := lN (16 * i + 8)) (y := lN (16 * j + 8)) hp hs
  obtain ⟨⟨x0, x1, x2⟩, ⟨y0, y1, y2⟩, -⟩ := hs
  have k0 := td_hL (i := i) (j := j) hp.2.1 hp.2.2.1 hi hj x1 x2 y1 y2
  have k1 := td_hL (i := i) (j := j) hp.2.2.1 hp.1 hi hj x2 x0 y2 y0
  have k2 := td_hL (i := i) (j := j) hp.1 hp.2.1 hi hj x0 x1 y0 y1
  rw [← e0] at k0
  rw [← e1] at k1
  rw [← e2] at k2
  exact and_congr k0 (and_congr k1 k2)
theorem td_caE {g : Nat → Int32} {a : Nat} {X Y R L : Nat → Int64} (hp : td_pc g a) (hs : td_sc g a X Y R L) : td_ca X Y = td_AL g a := by
  obtain ⟨⟨x0, x1, x2⟩, ⟨y0, y1, y2⟩, -⟩ := hs
  show _ = td_eL g a (a + 4) (g (a + 8)).toInt64 (g (a + 8 + 1)).toInt64
  rw [td_eLs hp.1 hp.2.1]
  show (X 1 - X 0) * (Y 2 - Y 0) - (X 2 - X 0) * (Y 1 - Y 0) = _
  rw [x0, x1, x2, y0, y1, y2, Int64.mul_comm ((g (a + 8)).toInt64 - (g a).toInt64)]
/-- the class's nearness and light where a piece covers a pixel -/
theorem td_clsN {g : Nat → Int32} {a i j : Nat} {X Y R L U : Nat → Int64} (hp : td_pc g a) (hs : td_sc g a X Y R L) (hi : i < 48) (hj : j < 48) (hc : td_cov g a (td_x i) (td_x j)) (hU : ∀ t, t < 3 → U t = td_ce X Y t (lN (16 * i + 8)) (lN (16 * j + 8))) :
    td_q (td_wr U R) (td_ca X Y) = lN (td_near g a (td_x i) (td_x j)) ∧ td_near g a (td_x i) (td_x j) ≤ 1048576 ∧ td_q (td_wl U R L) (td_wr U R) = lN (td_lig g a (td_x i) (td_x j)) ∧ td_lig g a (td_x i) (td_x j) ≤ 65536 := by
  have e0 := (hU 0 (by decide)).trans (td_ce0 (x := lN (16 * i + 8)) (y := lN (16 * j + 8)) hp hs)
  have e1 := (hU 1 (by decide)).trans (td_ce1 (x := lN (16 * i + 8)) (y := lN (16 * j + 8)) hp hs)
  have e2 := (hU 2 (by decide)).trans (td_ce2 (x := lN (16 * i + 8)) (y := lN (16 * j + 8)) hp hs)
  have eA := td_caE hp hs
  obtain ⟨-, -, ⟨r0, r1, r2⟩, ⟨l0, l1, l2⟩⟩ := hs
  obtain ⟨m1, m2, m3, m4, m5, m6, m7⟩ := td_mach (h := td_wr U R) (ls := td_wl U R L) hp hi hj hc e0 e1 e2 (by show U 0 * R 0 + U 1 * R 1 + U 2 * R 2 = _; rw [r0, r1, r2]) (by show U 0 * R 0 * L 0 + U 1 * R 1 * L 1 + U 2 * R 2 * L 2 = _; rw [r0, r1, r2, l0, l1, l2])
  refine ⟨?_, m5, ?_, m7⟩
  · rw [eA, td_q_div (by omega) m2, m4]
  · rw [td_q_div m3 m1, m6]
/-- the box -/
theorem td_mn_le (X : Nat → Int64) : (td_mn X).toInt ≤ (X 0).toInt ∧ (td_mn X).toInt ≤ (X 1).toInt ∧ (td_mn X).toInt ≤ (X 2).toInt ∧ (td_mn X = X 0 ∨ td_mn X = X 1 ∨ td_mn X = X 2) := by
  unfold td_mn
  by_cases h : X 2 < X 1
  · simp only [if_pos h]
    by_cases k : X 2 < X 0
    · simp only [if_pos k]; rw [td_lt64] at h k; exact ⟨by omega, by omega, by omega, by simp⟩
    · simp only [if_neg k]; rw [td_lt64] at h k; exact ⟨by omega, by omega, by omega, by simp⟩
  · simp only [if_neg h]
    by_cases k : X 1 < X 0
    · simp only [if_pos k]; rw [td_lt64] at h k; exact ⟨by omega, by omega, by omega, by simp⟩
    · simp only [if_neg k]; rw [td_lt64] at h k; exact ⟨by omega, by omega, by omega, by simp⟩
theorem td_mxx_le (X : Nat → Int64) : (X 0).toInt ≤ (td_mxx X).toInt ∧ (X 1).toInt ≤ (td_mxx X).toInt ∧ (X 2).toInt ≤ (td_mxx X).toInt ∧ (td_mxx X = X 0 ∨ td_mxx X = X 1 ∨ td_mxx X = X 2) := by
  unfold td_mxx
  by_cases h : X 2 < X 1
  · simp only [if_pos h]
    by_cases k : X 1 < X 0
    · simp only [if_pos k]; rw [td_lt64] at h k; exact ⟨by omega, by omega, by omega, by simp⟩
    · simp only [if_neg k]; rw [td_lt64] at h k; exact ⟨by omega, by omega, by omega, by simp⟩
  · simp only [if_neg h]
    by_cases k : X 2 < X 0
    · simp only [if_pos k]; rw [td_lt64] at h k; exact ⟨by omega, by omega, by omega, by simp⟩
    · simp only [if_neg k]; rw [td_lt64] at h k; exact ⟨by omega, by omega, by omega, by simp⟩
theorem td_i32 {x : Int64} (h1 : -2147483648 ≤ x.toInt) (h2 : x.toInt < 2147483648) : x.toInt32.toInt = x.toInt := by
  rw [Int64.toInt_toInt32, td_bm32 h1 h2]
theorem td_fm_toInt {p : Int64} (h1 : -4096 ≤ p.toInt) (h2 : p.toInt ≤ 4096) : (td_fm p).toInt = (p.toInt + 7) / 16 := by
  have c8 : (8 : Int64).toInt = 8 := by decide
  have c16 : (16 : Int64).toInt = 16 := by decide
  have c1 : (1 : Int64).toInt = 1 := by decide
  have a1 : (p - 8).toInt = p.toInt - 8 := by rw [td_sub64 (by rw [c8]; omega) (by rw [c8]; omega), c8]
  have a2 : (p - 8 + 16).toInt = p.toInt + 8 := by rw [td_add64 (by rw [a1, c16]; omega) (by rw [a1, c16]; omega), a1, c16]; omega
  have a3 : (p - 8 + 16 - 1).toInt = p.toInt + 7 := by rw [td_sub64 (by rw [a2, c1]; omega) (by rw [a2, c1]; omega), a2, c1]; omega
  have a4 : (td_q (p - 8 + 16 - 1) 16).toInt = (p.toInt + 7) / 16 := by rw [td_q_toInt (by rw [c16]; omega), a3, c16]
  show (td_q (p - 8 + 16 - 1) 16).toInt32.toInt = _
  rw [td_i32 (by rw [a4]; omega) (by rw [a4]; omega), a4]
theorem td_lm_toInt {p : Int64} (h1 : -4096 ≤ p.toInt) (h2 : p.toInt ≤ 4096) : (td_lm p).toInt = (p.toInt - 8) / 16 := by
  have c8 : (8 : Int64).toInt = 8 := by decide
  have c16 : (16 : Int64).toInt = 16 := by decide
  have a1 : (p - 8).toInt = p.toInt - 8 := by rw [td_sub64 (by rw [c8]; omega) (by rw [c8]; omega), c8]
  have a4 : (td_q (p - 8) 16).toInt = (p.toInt - 8) / 16 := by rw [td_q_toInt (by rw [c16]; omega), a1, c16]
  show (td_q (p - 8) 16).toInt32.toInt = _
  rw [td_i32 (by rw [a4]; omega) (by rw [a4]; omega), a4]
/-- one side of the box: three places d0, d1, d2 (less the middle x = 16 i + 8), weighed to 0 -/
theorem td_side {X : Nat → Int64} {p0 p1 p2 w0 w1 w2 : Int} {i : Nat} (e0 : (X 0).toInt = p0) (e1 : (X 1).toInt = p1) (e2 : (X 2).toInt = p2) (b0 : -4096 ≤ p0 ∧ p0 ≤ 4096) (b1 : -4096 ≤ p1 ∧ p1 ≤ 4096) (b2 : -4096 ≤ p2 ∧ p2 ≤ 4096)
    (h0 : 0 ≤ w0) (h1 : 0 ≤ w1) (h2 : 0 ≤ w2) (hs : 0 < w0 + w1 + w2) (hm : w0 * (p0 - td_x i) + w1 * (p1 - td_x i) + w2 * (p2 - td_x i) = 0) : (td_fm (td_mn X)).toInt ≤ i ∧ (i : Int) ≤ (td_lm (td_mxx X)).toInt := by
  obtain ⟨m0, m1, m2, m3⟩ := td_mn_le X
  obtain ⟨n0, n1, n2, n3⟩ := td_mxx_le X
  obtain ⟨k1, k2⟩ := td_box h0 h1 h2 hs hm
  unfold td_x at k1 k2
  have mb : -4096 ≤ (td_mn X).toInt ∧ (td_mn X).toInt ≤ 4096 := by rcases m3 with h | h | h <;> rw [h] <;> omega
  have nb : -4096 ≤ (td_mxx X).toInt ∧ (td_mxx X).toInt ≤ 4096 := by rcases n3 with h | h | h <;> rw [h] <;> omega
  rw [td_fm_toInt mb.1 mb.2, td_lm_toInt nb.1 nb.2]
  constructor <;> omega
theorem td_inbox {g : Nat → Int32} {a i j : Nat} {X Y R L : Nat → Int64} (hp : td_pc g a) (hs : td_sc g a X Y R L) (hc : td_cov g a (td_x i) (td_x j)) :
    ((td_fm (td_mn X)).toInt ≤ i ∧ (i : Int) ≤ (td_lm (td_mxx X)).toInt) ∧ ((td_fm (td_mn Y)).toInt ≤ j ∧ (j : Int) ≤ (td_lm (td_mxx Y)).toInt) := by
  obtain ⟨w0, w1, w2, -, -, -, A0, -⟩ := td_bounds hp hc
  have hsum := td_sum g a (td_x i) (td_x j)
  have hmx := td_momX g a (td_x i) (td_x j)
  have hmy := td_momY g a (td_x i) (td_x j)
  obtain ⟨⟨x0, x1, x2⟩, ⟨y0, y1, y2⟩, -⟩ := hs
  obtain ⟨⟨a1, a2, a3, a4, -⟩, ⟨b1, b2, b3, b4, -⟩, ⟨c1, c2, c3, c4, -⟩, -⟩ := hp
  exact ⟨td_side (by rw [x0, Int32.toInt_toInt64]) (by rw [x1, Int32.toInt_toInt64]) (by rw [x2, Int32.toInt_toInt64]) ⟨a1, a2⟩ ⟨b1, b2⟩ ⟨c1, c2⟩ w0 w1 w2 (by omega) hmx, td_side (by rw [y0, Int32.toInt_toInt64]) (by rw [y1, Int32.toInt_toInt64]) (by rw [y2, Int32.toInt_toInt64]) ⟨a3, a4⟩ ⟨b3, b4⟩ ⟨c3, c4⟩ w0 w1 w2 (by omega) hmy⟩
/-- what fm and lm are, at any shape of a piece -/
theorem td_fm_b {g : Nat → Int32} {a : Nat} {X Y R L : Nat → Int64} (hp : td_pc g a) (hs : td_sc g a X Y R L) : (-300 ≤ (td_fm (td_mn X)).toInt ∧ (td_fm (td_mn X)).toInt ≤ 300) ∧ (-300 ≤ (td_lm (td_mxx X)).toInt ∧ (td_lm (td_mxx X)).toInt ≤ 300) ∧ (-300 ≤ (td_fm (td_mn Y)).toInt ∧ (td_fm (td_mn Y)).toInt ≤ 300) ∧ (-300 ≤ (td_lm (td_mxx Y)).toInt ∧ (td_lm (td_mxx Y)).toInt ≤ 300) := by
  obtain ⟨⟨x0, x1, x2⟩, ⟨y0, y1, y2⟩, -⟩ := hs
  obtain ⟨⟨a1, a2, a3, a4, -⟩, ⟨b1, b2, b3, b4, -⟩, ⟨c1, c2, c3, c4, -⟩, -⟩ := hp
  have key : ∀ (Z : Nat → Int64) (p0 p1 p2 : Int), (Z 0).toInt = p0 → (Z 1).toInt = p1 → (Z 2).toInt = p2 → (-4096 ≤ p0 ∧ p0 ≤ 4096) → (-4096 ≤ p1 ∧ p1 ≤ 4096) → (-4096 ≤ p2 ∧ p2 ≤ 4096) → (-300 ≤ (td_fm (td_mn Z)).toInt ∧ (td_fm (td_mn Z)).toInt ≤ 300) ∧ (-300 ≤ (td_lm (td_mxx Z)).toInt ∧ (td_lm (td_mxx Z)).toInt ≤ 300) := by
    intro Z p0 p1 p2 e0 e1 e2 b0 b1 b2
    obtain ⟨-, -, -, m3⟩ := td_mn_le Z
    obtain ⟨-, -, -, n3⟩ := td_mxx_le Z
    have mb : -4096 ≤ (td_mn Z).toInt ∧ (td_mn Z).toInt ≤ 4096 := by rcases m3 with h | h | h <;> rw [h] <;> omega
    have nb : -4096 ≤ (td_mxx Z).toInt ∧ (td_mxx Z).toInt ≤ 4096 := by rcases n3 with h | h | h <;> rw [h] <;> omega
    rw [td_fm_toInt mb.1 mb.2, td_lm_toInt nb.1 nb.2]
    constructor <;> constructor <;> omega
  have kx := key X _ _ _ (by rw [x0, Int32.toInt_toInt64]) (by rw [x1, Int32.toInt_toInt64]) (by rw [x2, Int32.toInt_toInt64]) ⟨a1, a2⟩ ⟨b1, b2⟩ ⟨c1, c2⟩
  have ky := key Y _ _ _ (by rw [y0, Int32.toInt_toInt64]) (by rw [y1, Int32.toInt_toInt64]) (by rw [y2, Int32.toInt_toInt64]) ⟨a3, a4⟩ ⟨b3, b4⟩ ⟨c3, c4⟩
  exact ⟨kx.1, kx.2, ky.1, ky.2⟩
