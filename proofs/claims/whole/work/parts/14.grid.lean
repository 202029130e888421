/-! Pixels in a row of w: places, filled parts, drawn parts. -/
theorem td_ix {i j w h : Nat} (hi : i < w) (hj : j < h) : j * w + i < w * h := by
  have h1 : (j + 1) * w ≤ h * w := Nat.mul_le_mul_right w hj
  have h2 : (j + 1) * w = j * w + w := Nat.succ_mul j w
  have h3 : h * w = w * h := Nat.mul_comm h w
  omega
theorem td_inj {i j x y w : Nat} (hi : i < w) (hx : x < w) (h : j * w + i = y * w + x) : i = x ∧ j = y := by
  have h1 : (j * w + i) % w = i := by rw [Nat.add_comm, Nat.add_mul_mod_self_right]; exact Nat.mod_eq_of_lt hi
  have h2 : (y * w + x) % w = x := by rw [Nat.add_comm, Nat.add_mul_mod_self_right]; exact Nat.mod_eq_of_lt hx
  have e : i = x := by rw [← h1, ← h2, h]
  subst e
  have h3 : j * w = y * w := by omega
  exact ⟨rfl, Nat.eq_of_mul_eq_mul_right (by omega) h3⟩
theorem td_upd_at {f : Nat → Int32} {i j x y w : Nat} {v : Int32} (hi : i < w) (hx : x < w) : upd f (y * w + x) v (j * w + i) = if i = x ∧ j = y then v else f (j * w + i) := by
  unfold upd
  by_cases h : i = x ∧ j = y
  · rw [if_pos h, if_pos (by rw [h.1, h.2])]
  · rw [if_neg h, if_neg (fun z => h (td_inj hi hx z))]
/-- a part of the picture is filled with b: rows tp .. y - 1, columns lf .. rt - 1, and of row y the columns lf .. x - 1 -/
def td_fI (w h lf tp rt y x : Nat) (b : Int32) (f0 f : Nat → Int32) : Prop := ∀ i j, i < w → j < h → f (j * w + i) = if ((lf ≤ i ∧ i < rt) ∧ tp ≤ j ∧ j < y) ∨ (j = y ∧ lf ≤ i ∧ i < x) then b else f0 (j * w + i)
theorem td_fI0 {w h lf tp rt : Nat} {b : Int32} {f : Nat → Int32} : td_fI w h lf tp rt tp lf b f f := fun i j _ _ => by rw [if_neg (by omega)]
theorem td_fI_put {w h lf tp rt y x : Nat} {b : Int32} {f0 f : Nat → Int32} (hx : x < w) (h1 : lf ≤ x) (h2 : x < rt) (H : td_fI w h lf tp rt y x b f0 f) : td_fI w h lf tp rt y (x + 1) b f0 (upd f (y * w + x) b) := fun i j hi hj => by
  rw [td_upd_at hi hx, H i j hi hj]
  by_cases e : i = x ∧ j = y
  · rw [if_pos e, if_pos (by omega)]
  · rw [if_neg e]
    by_cases q : ((lf ≤ i ∧ i < rt) ∧ tp ≤ j ∧ j < y) ∨ (j = y ∧ lf ≤ i ∧ i < x)
    · rw [if_pos q, if_pos (by omega)]
    · rw [if_neg q, if_neg (by omega)]
theorem td_fI_row {w h lf tp rt y : Nat} {b : Int32} {f0 f : Nat → Int32} (hy : tp ≤ y) (H : td_fI w h lf tp rt y rt b f0 f) : td_fI w h lf tp rt (y + 1) lf b f0 f := fun i j hi hj => by
  rw [H i j hi hj]
  by_cases q : ((lf ≤ i ∧ i < rt) ∧ tp ≤ j ∧ j < y) ∨ (j = y ∧ lf ≤ i ∧ i < rt)
  · rw [if_pos q, if_pos (by omega)]
  · rw [if_neg q, if_neg (by omega)]
/-- a piece is drawn on a part of a tile: before row Y, and of row Y before column X -/
def td_dI (w h lf tp rt bm : Nat) (st q : Nat → Nat → Nat × Nat) (c0 n0 : Nat → Int32) (Y X : Nat) (fc fn : Nat → Int32) : Prop := ∀ i j, i < w → j < h →
  ((lf ≤ i ∧ i < rt) ∧ tp ≤ j ∧ j < bm → fc (j * w + i) = nI (if j < Y ∨ j = Y ∧ i < X then st i j else q i j).1 ∧ fn (j * w + i) = nI (if j < Y ∨ j = Y ∧ i < X then st i j else q i j).2) ∧
  (¬ ((lf ≤ i ∧ i < rt) ∧ tp ≤ j ∧ j < bm) → fc (j * w + i) = c0 (j * w + i) ∧ fn (j * w + i) = n0 (j * w + i))
theorem td_dI_to {w h lf tp rt bm : Nat} {st q : Nat → Nat → Nat × Nat} {c0 n0 : Nat → Int32} {Y X Y' X' : Nat} {fc fn : Nat → Int32} (H : td_dI w h lf tp rt bm st q c0 n0 Y X fc fn)
    (hs : ∀ i j, (lf ≤ i ∧ i < rt) ∧ tp ≤ j ∧ j < bm → ¬ (j < Y ∨ j = Y ∧ i < X) → (j < Y' ∨ j = Y' ∧ i < X') → st i j = q i j) (hm : ∀ i j, (lf ≤ i ∧ i < rt) ∧ tp ≤ j ∧ j < bm → (j < Y ∨ j = Y ∧ i < X) → (j < Y' ∨ j = Y' ∧ i < X')) : td_dI w h lf tp rt bm st q c0 n0 Y' X' fc fn := fun i j hi hj => by
  obtain ⟨h1, h2⟩ := H i j hi hj
  refine ⟨fun ht => ?_, h2⟩
  have h3 := h1 ht
  by_cases a : j < Y ∨ j = Y ∧ i < X
  · rw [if_pos a] at h3
    rw [if_pos (hm i j ht a)]
    exact h3
  · rw [if_neg a] at h3
    by_cases b : j < Y' ∨ j = Y' ∧ i < X'
    · rw [if_pos b, hs i j ht a b]; exact h3
    · rw [if_neg b]; exact h3
theorem td_dI_put {w h lf tp rt bm : Nat} {st q : Nat → Nat → Nat × Nat} {c0 n0 : Nat → Int32} {Y X : Nat} {fc fn gc gn : Nat → Int32} (hX : X < w) (hY : Y < h) (ht : (lf ≤ X ∧ X < rt) ∧ tp ≤ Y ∧ Y < bm) (H : td_dI w h lf tp rt bm st q c0 n0 Y X fc fn)
    (ho : ∀ t, t ≠ Y * w + X → gc t = fc t ∧ gn t = fn t) (hc : gc (Y * w + X) = nI (st X Y).1) (hn : gn (Y * w + X) = nI (st X Y).2) : td_dI w h lf tp rt bm st q c0 n0 Y (X + 1) gc gn := fun i j hi hj => by
  by_cases e : i = X ∧ j = Y
  · obtain ⟨rfl, rfl⟩ := e
    refine ⟨fun _ => ?_, fun z => absurd ht z⟩
    rw [if_pos (by omega)]
    exact ⟨hc, hn⟩
  · have hne : j * w + i ≠ Y * w + X := fun z => e (td_inj hi hX z)
    obtain ⟨o1, o2⟩ := ho _ hne
    obtain ⟨h1, h2⟩ := H i j hi hj
    rw [o1, o2]
    refine ⟨fun z => ?_, h2⟩
    have h3 := h1 z
    by_cases a : j < Y ∨ j = Y ∧ i < X
    · rw [if_pos a] at h3; rw [if_pos (by omega)]; exact h3
    · rw [if_neg a] at h3; rw [if_neg (by omega)]; exact h3
/-- what is there at a pixel of the tile in work -/
theorem td_dI_at {w h lf tp rt bm : Nat} {st q : Nat → Nat → Nat × Nat} {c0 n0 : Nat → Int32} {Y X : Nat} {fc fn : Nat → Int32} (hX : X < w) (hY : Y < h) (ht : (lf ≤ X ∧ X < rt) ∧ tp ≤ Y ∧ Y < bm) (H : td_dI w h lf tp rt bm st q c0 n0 Y X fc fn) : fc (Y * w + X) = nI (q X Y).1 ∧ fn (Y * w + X) = nI (q X Y).2 := by
  have h1 := (H X Y hX hY).1 ht
  rw [if_neg (by omega)] at h1
  exact h1
/-- numbers of ints -/
theorem td_nat {x : Int32} {b : Nat} (h : 0 ≤ x ∧ x ≤ nI b) (hb : b < 2 ^ 31) : ∃ X : Nat, X ≤ b ∧ x = nI X := nI_of2 (nI_toInt hb) (Int32.not_lt.mpr h.1) h.2
theorem td_tn {x : Int32} {X : Nat} (e : x = nI X) (h : X < 2 ^ 31) : x.toInt.toNat = X := by rw [e, nI_toInt h]; rfl
theorem td_div8 {x : Int32} {X : Nat} (e : x = nI X) (h : X < 2 ^ 31) : x / 8 = nI (X / 8) := by rw [e]; exact pk_div (d := 8) h (by decide) (by decide)
theorem td_min32 {a b : Nat} (ha : a < 2 ^ 31) (hb : b < 2 ^ 31) : (if nI a < nI b then nI a else nI b) = nI (if a < b then a else b) := by
  by_cases h : a < b
  · rw [if_pos h, if_pos (nI_lt h hb)]
  · rw [if_neg h, if_neg (nI_nlt (by omega) ha)]
theorem td_tix {a b ta th : Nat} (h1 : a < th) (h2 : b < ta) : a * ta + b < ta * th := by
  have h3 : (a + 1) * ta ≤ th * ta := Nat.mul_le_mul_right ta h1
  have h4 : (a + 1) * ta = a * ta + ta := Nat.succ_mul a ta
  have h5 : th * ta = ta * th := Nat.mul_comm th ta
  omega
theorem td_tile {a b ta k : Nat} (h2 : b < ta) : a * ta + b = k ↔ a = k / ta ∧ b = k % ta := by
  have hp : 0 < ta := by omega
  constructor
  · intro h
    subst h
    constructor
    · rw [Nat.add_comm, Nat.add_mul_div_right _ _ hp, Nat.div_eq_of_lt h2]; omega
    · rw [Nat.add_comm, Nat.add_mul_mod_self_right, Nat.mod_eq_of_lt h2]
  · rintro ⟨rfl, rfl⟩
    have := Nat.div_add_mod' k ta
    omega
theorem td_modk {k ta : Nat} : k - k / ta * ta = k % ta := by
  have := Nat.div_add_mod' k ta
  omega
theorem td_wh {w h : Nat} (hw : w ≤ 48) (hh : h ≤ 48) : w * h ≤ 2304 := by
  have := Nat.mul_le_mul hw hh
  omega
theorem td_tt {a b : Nat} (ha : a ≤ 6) (hb : b ≤ 6) : a * b ≤ 36 := by
  have := Nat.mul_le_mul ha hb
  omega
theorem td_zst {f : Nat → Int32} {t : Nat} (h : ∀ z, z < t → f z = 0) : ∀ z, z < t + 1 → upd f t 0 z = 0 := fun z hz => by
  unfold upd
  by_cases e : z = t
  · rw [if_pos e]
  · rw [if_neg e]; exact h z (by omega)
