/-! The reference's own numbers. -/
def td_prt (C wi : Nat) : Nat := if wi = 0 then C / 65536 else if wi = 1 then C / 256 % 256 else C % 256
theorem td_nb3 {f o c : Nat} (hf : f < 256) (ho : o < 256) (hc : c ≤ 255) : f * c + o * (255 - c) < 2 ^ 31 := by
  have h1 := Nat.mul_le_mul (show f ≤ 255 by omega) hc
  have h2 := Nat.mul_le_mul (show o ≤ 255 by omega) (show 255 - c ≤ 255 by omega)
  omega
theorem td_lit_p {T Lt : Nat} (hT : T < 16777216) (hL : Lt ≤ 65536) : td_lit T Lt / 65536 = td_v (T / 65536) Lt ∧ td_lit T Lt / 256 % 256 = td_v (T / 256 % 256) Lt ∧ td_lit T Lt % 256 = td_v (T % 256) Lt := by
  have h0 := td_v_le (n := T / 65536) (l := Lt) (by omega) hL
  have h1 := td_v_le (n := T / 256 % 256) (l := Lt) (by omega) hL
  have h2 := td_v_le (n := T % 256) (l := Lt) (by omega) hL
  unfold td_lit
  omega
theorem td_mixof {T Lt C O : Nat} (hT : T < 16777216) (hL : Lt ≤ 65536) : nI (((0 + td_mx (td_v (T / 65536) Lt) (O / 65536) C) * 256 + td_mx (td_v (T / 256 % 256) Lt) (O / 256 % 256) C) * 256 + td_mx (td_v (T % 256) Lt) (O % 256) C) = nI (td_mix (td_lit T Lt) O C) := by
  obtain ⟨p0, p1, p2⟩ := td_lit_p hT hL
  unfold td_mix
  rw [p0, p1, p2, Nat.zero_add]
theorem td_m32 {g : Nat → Int32} {a b i j : Nat} (ha : td_ok g a) (hb : td_ok g b) (hi : i < 48) (hj : j < 48) :
    (0 < td_eL g a b (lN (16 * i + 8)) (lN (16 * j + 8)) ∨ td_eL g a b (lN (16 * i + 8)) (lN (16 * j + 8)) = 0 ∧ (g (b + 1) < g (a + 1) ∨ g (b + 1) = g (a + 1) ∧ g a < g b)) ↔ td_h g a b (td_x i) (td_x j) := by
  rw [← td_hL ha hb hi hj rfl rfl rfl rfl]
  have q3 : g (b + 1) < g (a + 1) ↔ (g (b + 1)).toInt64 < (g (a + 1)).toInt64 := by rw [td_lt64, td_lt32, Int32.toInt_toInt64, Int32.toInt_toInt64]
  have q4 : g (b + 1) = g (a + 1) ↔ (g (b + 1)).toInt64 = (g (a + 1)).toInt64 := ⟨fun h => by rw [h], fun h => td_eq32 (by have := congrArg Int64.toInt h; rw [Int32.toInt_toInt64, Int32.toInt_toInt64] at this; exact this)⟩
  have q5 : g a < g b ↔ (g a).toInt64 < (g b).toInt64 := by rw [td_lt64, td_lt32, Int32.toInt_toInt64, Int32.toInt_toInt64]
  rw [q3, q4, q5]
theorem td_lt3 {k : Int32} (h : ¬ (3 : Int32) ≤ k) : k ≤ 2 := by
  rw [td_le32] at *
  have c3 : (3 : Int32).toInt = 3 := by decide
  have c2 : (2 : Int32).toInt = 2 := by decide
  omega
theorem td_lt3n {k : Int32} (h : (3 : Int32) ≤ k) (h2 : k ≤ 2) : False := by
  rw [td_le32] at *
  have c3 : (3 : Int32).toInt = 3 := by decide
  have c2 : (2 : Int32).toInt = 2 := by decide
  omega
theorem td_cpst {g gg : Nat → Int32} {n k : Nat} (hn : n < 512) (hk : k < 12) (h : ∀ z, gg z = if 14 * n ≤ z ∧ z < 14 * n + k then g (7168 + (z - 14 * n)) else g z) : ∀ z, upd gg (14 * n + k) (gg (7168 + k)) z = if 14 * n ≤ z ∧ z < 14 * n + (k + 1) then g (7168 + (z - 14 * n)) else g z := fun z => by
  unfold upd
  by_cases e : z = 14 * n + k
  · rw [if_pos e, if_pos (by omega), h (7168 + k), if_neg (by omega), e]
    congr 2; omega
  · rw [if_neg e, h z]
    by_cases q : 14 * n ≤ z ∧ z < 14 * n + k
    · rw [if_pos q, if_pos (by omega)]
    · rw [if_neg q, if_neg (by omega)]
def td_added (g : Nat → Int32) (n : Nat) (tn cv : Int32) (gg : Nat → Int32) : Prop := ∀ z, gg z = if z = 14 * n + 13 then cv else if z = 14 * n + 12 then tn else if 14 * n ≤ z ∧ z < 14 * n + 12 then g (7168 + (z - 14 * n)) else g z
theorem td_addedof {g gg : Nat → Int32} {n : Nat} {tn cv : Int32} (hn : n < 512) (h : ∀ z, gg z = if 14 * n ≤ z ∧ z < 14 * n + 12 then g (7168 + (z - 14 * n)) else g z) : td_added g n tn cv (upd (upd gg (14 * n + 12) tn) (14 * n + 13) cv) := fun z => by
  unfold upd
  by_cases e : z = 14 * n + 13
  · rw [if_pos e, if_pos e]
  · rw [if_neg e, if_neg e]
    by_cases e2 : z = 14 * n + 12
    · rw [if_pos e2, if_pos e2]
    · rw [if_neg e2, if_neg e2, h z]
/-- the reference's picture, up to row J and column I -/
def td_mI (g : Nat → Int32) (bg w h n J I : Nat) (fc fn : Nat → Int32) : Prop := ∀ i j, i < w → j < h → (j < J ∨ j = J ∧ i < I) → fc (48 * j + i) = nI (td_px g bg i j n).1 ∧ fn (48 * j + i) = nI (td_px g bg i j n).2
theorem td_mI0 {g : Nat → Int32} {bg w h n : Nat} {fc fn : Nat → Int32} : td_mI g bg w h n 0 0 fc fn := fun i j _ _ q => by omega
theorem td_mI_row {g : Nat → Int32} {bg w h n J : Nat} {fc fn : Nat → Int32} (H : td_mI g bg w h n J w fc fn) : td_mI g bg w h n (J + 1) 0 fc fn := fun i j hi hj q => H i j hi hj (by omega)
theorem td_mI_put {g : Nat → Int32} {bg w h n J I : Nat} {fc fn gc gn : Nat → Int32} (hI : I < w) (hw : w ≤ 48) (hJ : J < h) (H : td_mI g bg w h n J I fc fn) (ho : ∀ z, z ≠ 48 * J + I → gc z = fc z ∧ gn z = fn z) (hp : gc (48 * J + I) = nI (td_px g bg I J n).1 ∧ gn (48 * J + I) = nI (td_px g bg I J n).2) : td_mI g bg w h n J (I + 1) gc gn := fun i j hi hj q => by
  by_cases e : i = I ∧ j = J
  · obtain ⟨rfl, rfl⟩ := e
    exact hp
  · obtain ⟨o1, o2⟩ := ho (48 * j + i) (by omega)
    rw [o1, o2]
    exact H i j hi hj (by omega)
theorem td_mI_end {g : Nat → Int32} {bg w h n : Nat} {fc fn : Nat → Int32} (H : td_mI g bg w h n h 0 fc fn) {i j : Nat} (hi : i < w) (hj : j < h) : fc (48 * j + i) = nI (td_px g bg i j n).1 ∧ fn (48 * j + i) = nI (td_px g bg i j n).2 := H i j hi hj (Or.inl hj)
abbrev td_ms (x y : Int32) (w h : Nat) (fD : Nat → Int32) : Prop := (0 ≤ x ∧ x < nI w) ∧ (0 ≤ y ∧ y < nI h) ∧ ¬ fD (y.toInt.toNat / 8 * ((w + 7) / 8) + x.toInt.toNat / 8) = 0
def td_dn (f : Nat → Int32) : Nat → Int32
  | 0 => 0
  | t + 1 => td_dn f t + (if f t = 0 then 0 else 1)
theorem td_dn0 {f : Nat → Int32} {t : Nat} (h : f t = 0) : td_dn f (t + 1) = td_dn f t + 0 := by
  show td_dn f t + (if f t = 0 then 0 else 1) = _
  rw [if_pos h]
theorem td_dn1 {f : Nat → Int32} {t : Nat} (h : ¬ f t = 0) : td_dn f (t + 1) = td_dn f t + 1 := by
  show td_dn f t + (if f t = 0 then 0 else 1) = _
  rw [if_neg h]
