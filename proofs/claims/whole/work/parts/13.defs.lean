/-! What the class's own methods answer, in the machine's longs. -/
abbrev td_ca (X Y : Nat → Int64) : Int64 := (X 1 - X 0) * (Y 2 - Y 0) - (X 2 - X 0) * (Y 1 - Y 0)
abbrev td_wr (U R : Nat → Int64) : Int64 := U 0 * R 0 + U 1 * R 1 + U 2 * R 2
abbrev td_wl (U R L : Nat → Int64) : Int64 := U 0 * R 0 * L 0 + U 1 * R 1 * L 1 + U 2 * R 2 * L 2
abbrev td_mn (X : Nat → Int64) : Int64 := if (if X 2 < X 1 then X 2 else X 1) < X 0 then (if X 2 < X 1 then X 2 else X 1) else X 0
abbrev td_mxx (X : Nat → Int64) : Int64 := if (if X 2 < X 1 then X 1 else X 2) < X 0 then X 0 else (if X 2 < X 1 then X 1 else X 2)
abbrev td_fm (p : Int64) : Int32 := (td_q (p - 8 + 16 - 1) 16).toInt32
abbrev td_lm (p : Int64) : Int32 := (td_q (p - 8) 16).toInt32
abbrev td_ce (X Y : Nat → Int64) (k : Nat) (x y : Int64) : Int64 := (X ((k + 2) % 3) - X ((k + 1) % 3)) * (y - Y ((k + 1) % 3)) - (Y ((k + 2) % 3) - Y ((k + 1) % 3)) * (x - X ((k + 1) % 3))
abbrev td_cc (X Y : Nat → Int64) (k : Nat) (x y : Int64) : Prop := 0 < td_ce X Y k x y ∨ td_ce X Y k x y = 0 ∧ (Y ((k + 2) % 3) < Y ((k + 1) % 3) ∨ Y ((k + 2) % 3) = Y ((k + 1) % 3) ∧ X ((k + 1) % 3) < X ((k + 2) % 3))
abbrev td_cc3 (X Y : Nat → Int64) (x y : Int64) : Prop := td_cc X Y 0 x y ∧ td_cc X Y 1 x y ∧ td_cc X Y 2 x y
theorem td_pos64 {e : Int64} (h1 : ¬ e < 0) (h2 : ¬ e = 0) : 0 < e := by
  rw [td_lt64] at *
  have : ¬ e.toInt = (0 : Int64).toInt := fun h => h2 (td_eq64 h)
  omega
theorem td_n1 {e : Int64} {Q : Prop} (h : e < 0) (z : 0 < e ∨ e = 0 ∧ Q) : False := by
  rcases z with z | ⟨z, -⟩
  · rw [td_lt64] at h z; omega
  · rw [z] at h; exact absurd h (by decide)
theorem td_n2 {e : Int64} {Q : Prop} (h : e = 0) (hq : ¬ Q) (z : 0 < e ∨ e = 0 ∧ Q) : False := by
  rcases z with z | ⟨-, z⟩
  · rw [h] at z; exact absurd z (by decide)
  · exact hq z
theorem td_ncc {X Y : Nat → Int64} {x y : Int64} {k : Nat} (hk : k < 3) (z : td_cc3 X Y x y) (n : td_cc X Y k x y → False) : False := by
  rcases (show k = 0 ∨ k = 1 ∨ k = 2 by omega) with rfl | rfl | rfl
  · exact n z.1
  · exact n z.2.1
  · exact n z.2.2
theorem td_wst {f nW : Nat → Int64} {k : Nat} {v : Int64} (h : ∀ t, t < k → nW t = f t) (hv : v = f k) : ∀ t, t < k + 1 → vp_updL nW k v t = f t := fun t ht => by
  unfold vp_updL
  by_cases e : t = k
  · rw [if_pos e, e]; exact hv
  · rw [if_neg e]; exact h t (by omega)
theorem td_nb {n l : Nat} (hn : n < 256) (hl : l ≤ 65536) : n * l < 9223372036854775808 := by
  have := Nat.mul_le_mul (show n ≤ 255 by omega) hl
  omega
theorem td_nb2 {f o c : Nat} (hf : f < 256) (ho : o < 256) (hc : c ≤ 255) : f * c + o * (255 - c) < 9223372036854775808 := by
  have h1 := Nat.mul_le_mul (show f ≤ 255 by omega) hc
  have h2 := Nat.mul_le_mul (show o ≤ 255 by omega) (show 255 - c ≤ 255 by omega)
  omega
theorem td_bz_fit {P : Prop} [Decidable P] : fits .boolean (.int (td_bz P)) = true := by
  by_cases h : P
  · rw [td_bz1 h]; rfl
  · rw [td_bz0 h]; rfl
