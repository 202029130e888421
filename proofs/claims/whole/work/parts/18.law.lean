/-! What the law's loop keeps between the class's state and the reference's. -/
theorem td_pc_congr {g g' : Nat → Int32} {a a' : Nat} (h : ∀ z, z < 14 → g' (a' + z) = g (a + z)) (hp : td_pc g a) : td_pc g' a' := by
  have e0 : g' a' = g a := h 0 (by decide)
  have e1 : g' (a' + 1) = g (a + 1) := h 1 (by decide)
  have e2 : g' (a' + 2) = g (a + 2) := h 2 (by decide)
  have e3 : g' (a' + 3) = g (a + 3) := h 3 (by decide)
  have e4 : g' (a' + 4) = g (a + 4) := h 4 (by decide)
  have e5 : g' (a' + 4 + 1) = g (a + 4 + 1) := h 5 (by decide)
  have e6 : g' (a' + 4 + 2) = g (a + 4 + 2) := h 6 (by decide)
  have e7 : g' (a' + 4 + 3) = g (a + 4 + 3) := h 7 (by decide)
  have e8 : g' (a' + 8) = g (a + 8) := h 8 (by decide)
  have e9 : g' (a' + 8 + 1) = g (a + 8 + 1) := h 9 (by decide)
  have e10 : g' (a' + 8 + 2) = g (a + 8 + 2) := h 10 (by decide)
  have e11 : g' (a' + 8 + 3) = g (a + 8 + 3) := h 11 (by decide)
  have e12 : g' (a' + 12) = g (a + 12) := h 12 (by decide)
  have e13 : g' (a' + 13) = g (a + 13) := h 13 (by decide)
  obtain ⟨k0, k1, k2, k3, k4, k5, k6, k7⟩ := hp
  refine ⟨?_, ?_, ?_, ?_, by rw [e12]; exact k4, by rw [e12]; exact k5, by rw [e13]; exact k6, by rw [e13]; exact k7⟩
  · unfold td_ok at *; rw [e0, e1, e2, e3]; exact k0
  · unfold td_ok at *; rw [e4, e5, e6, e7]; exact k1
  · unfold td_ok at *; rw [e8, e9, e10, e11]; exact k2
  · show 0 < ((g' (a' + 4)).toInt - (g' a').toInt) * ((g' (a' + 8 + 1)).toInt - (g' (a' + 1)).toInt) - ((g' (a' + 4 + 1)).toInt - (g' (a' + 1)).toInt) * ((g' (a' + 8)).toInt - (g' a').toInt)
    rw [e0, e1, e4, e5, e8, e9]
    exact k3
def td_Txt (g : Nat → Int32) (X Y R L : Nat → Int64) : Prop := td_sc g 7168 X Y R L ∧ td_ok g 7168 ∧ td_ok g (7168 + 4) ∧ td_ok g (7168 + 8)
def td_Pcs (g : Nat → Int32) (n : Nat) (fC : Nat → Int64) (fT fV : Nat → Int32) : Prop := n ≤ 512 ∧ ∀ t, t < n → td_pc g (14 * t) ∧ td_pkd g (14 * t) (3 * t) fC ∧ fT t = g (14 * t + 12) ∧ fV t = g (14 * t + 13)
def td_Pic (w h : Nat) (g : Nat → Int32) (bgN mt : Nat) (bg bn dt mg tk : Int32) (fc fn fD gc gn gD : Nat → Int32) : Prop :=
  (bg = nI bgN ∧ bgN < 16777216 ∧ bn = mg ∧ tk = nI mt ∧ dt = td_dn gD 36) ∧ (∀ k, k < (w + 7) / 8 * ((h + 7) / 8) → fD k = gD k) ∧ (∀ k, (w + 7) / 8 * ((h + 7) / 8) ≤ k → k < 36 → gD k = 0) ∧ (mg = 0 → ∀ k, k < 36 → gD k = 0) ∧
  (¬ mg = 0 → ∀ i j, i < w → j < h → gc (48 * j + i) = nI (td_px g bgN i j mt).1 ∧ gn (48 * j + i) = nI (td_px g bgN i j mt).2) ∧
  (∀ i j, i < w → j < h → ¬ fD (j / 8 * ((w + 7) / 8) + i / 8) = 0 → fc (j * w + i) = nI (td_px g bgN i j mt).1 ∧ fn (j * w + i) = nI (td_px g bgN i j mt).2)
theorem td_pkd_congr {g g' : Nat → Int32} {f f' : Nat → Int64} {a b : Nat} (h : ∀ z, z < 14 → g' (a + z) = g (a + z)) (hf : ∀ z, z < 3 → f' (b + z) = f (b + z)) (hp : td_pkd g a b f) : td_pkd g' a b f' := by
  obtain ⟨p0, p1, p2⟩ := hp
  have e0 : g' a = g a := h 0 (by decide)
  have e1 : g' (a + 1) = g (a + 1) := h 1 (by decide)
  have e2 : g' (a + 2) = g (a + 2) := h 2 (by decide)
  have e3 : g' (a + 3) = g (a + 3) := h 3 (by decide)
  have e4 : g' (a + 4) = g (a + 4) := h 4 (by decide)
  have e5 : g' (a + 4 + 1) = g (a + 4 + 1) := h 5 (by decide)
  have e6 : g' (a + 4 + 2) = g (a + 4 + 2) := h 6 (by decide)
  have e7 : g' (a + 4 + 3) = g (a + 4 + 3) := h 7 (by decide)
  have e8 : g' (a + 8) = g (a + 8) := h 8 (by decide)
  have e9 : g' (a + 8 + 1) = g (a + 8 + 1) := h 9 (by decide)
  have e10 : g' (a + 8 + 2) = g (a + 8 + 2) := h 10 (by decide)
  have e11 : g' (a + 8 + 3) = g (a + 8 + 3) := h 11 (by decide)
  refine ⟨?_, ?_, ?_⟩
  · rw [hf 0 (by decide), e0, e1, e2, e3]; exact p0
  · rw [hf 1 (by decide), e4, e5, e6, e7]; exact p1
  · rw [hf 2 (by decide), e8, e9, e10, e11]; exact p2
theorem td_Pcs_congr {g g' : Nat → Int32} {n : Nat} {fC : Nat → Int64} {fT fV : Nat → Int32} (h : ∀ z, z < 7168 → g' z = g z) (hp : td_Pcs g n fC fT fV) : td_Pcs g' n fC fT fV := by
  refine ⟨hp.1, fun t ht => ?_⟩
  obtain ⟨a, b, c, d⟩ := hp.2 t ht
  have := hp.1
  exact ⟨td_pc_congr (fun z hz => h _ (by omega)) a, td_pkd_congr (fun z hz => h _ (by omega)) (fun _ _ => rfl) b, c.trans (h _ (by omega)).symm, d.trans (h _ (by omega)).symm⟩
theorem td_v1 : (-4096 : Int32).toInt = -4096 := by decide
theorem td_v2 : (4096 : Int32).toInt = 4096 := by decide
theorem td_v3 : (1 : Int32).toInt = 1 := by decide
theorem td_v4 : (1048576 : Int32).toInt = 1048576 := by decide
theorem td_v5 : (65536 : Int32).toInt = 65536 := by decide
theorem td_v6 : (0 : Int32).toInt = 0 := by decide
theorem td_cokI {k x y rr lt : Int32} (h : td_cok k x y rr lt) : (-4096 ≤ x.toInt ∧ x.toInt ≤ 4096) ∧ (-4096 ≤ y.toInt ∧ y.toInt ≤ 4096) ∧ (1 ≤ rr.toInt ∧ rr.toInt ≤ 1048576) ∧ (0 ≤ lt.toInt ∧ lt.toInt ≤ 65536) := by
  obtain ⟨-, ⟨a1, a2⟩, ⟨b1, b2⟩, ⟨c1, c2⟩, ⟨d1, d2⟩⟩ := h
  rw [td_le32] at *
  rw [td_v1] at a1 b1
  rw [td_v2] at a2 b2
  rw [td_v3] at c1
  rw [td_v4] at c2
  rw [td_v6] at d1
  rw [td_v5] at d2
  exact ⟨⟨a1, a2⟩, ⟨b1, b2⟩, ⟨c1, c2⟩, ⟨d1, d2⟩⟩
/-- what the four writes leave -/
theorem td_up4 {g : Nat → Int32} {a : Nat} {x y rr lt : Int32} (z : Nat) : upd (upd (upd (upd g a x) (a + 1) y) (a + 2) rr) (a + 3) lt z = if z = a + 3 then lt else if z = a + 2 then rr else if z = a + 1 then y else if z = a then x else g z := rfl
theorem td_L_corner {g gg : Nat → Int32} {vX vY vR vL gX gY gR gL : Nat → Int64} {k x y rr lt r1 r2 : Int32} (T : td_Txt g vX vY vR vL)
    (hc : (r1 = 1 ∧ td_cok k x y rr lt ∧ ∃ kk, kk < 3 ∧ k = nI kk ∧ gX = vp_updL vX kk x.toInt64 ∧ gY = vp_updL vY kk y.toInt64 ∧ gR = vp_updL vR kk rr.toInt64 ∧ gL = vp_updL vL kk lt.toInt64) ∨ (r1 = 0 ∧ ¬ td_cok k x y rr lt ∧ gX = vX ∧ gY = vY ∧ gR = vR ∧ gL = vL))
    (hm : (r2 = 1 ∧ td_cok k x y rr lt ∧ ∃ kk, kk < 3 ∧ k = nI kk ∧ gg = upd (upd (upd (upd g (7168 + 4 * kk) x) (7168 + 4 * kk + 1) y) (7168 + 4 * kk + 2) rr) (7168 + 4 * kk + 3) lt) ∨ (r2 = 0 ∧ ¬ td_cok k x y rr lt ∧ gg = g)) : r1 = r2 ∧ td_Txt gg gX gY gR gL ∧ ∀ z, z < 7168 → gg z = g z := by
  rcases hc with ⟨a1, a2, kk, a3, a4, rfl, rfl, rfl, rfl⟩ | ⟨a1, a2, rfl, rfl, rfl, rfl⟩
  · rcases hm with ⟨b1, -, k2, b3, b4, rfl⟩ | ⟨-, b2, -⟩
    · have ek : k2 = kk := (nI_eq (by omega) (by omega)).mp (b4.symm.trans a4)
      subst ek
      refine ⟨a1.trans b1.symm, ?_, fun z hz => by rw [td_up4, if_neg (by omega), if_neg (by omega), if_neg (by omega), if_neg (by omega)]⟩
      obtain ⟨⟨⟨x0, x1, x2⟩, ⟨y0, y1, y2⟩, ⟨r0, r1', r2'⟩, ⟨l0, l1, l2⟩⟩, o0, o1, o2⟩ := T
      obtain ⟨c1, c2, c3, c4⟩ := td_cokI a2
      rcases (show k2 = 0 ∨ k2 = 1 ∨ k2 = 2 by omega) with rfl | rfl | rfl
      · exact ⟨⟨⟨rfl, x1, x2⟩, ⟨rfl, y1, y2⟩, ⟨rfl, r1', r2'⟩, ⟨rfl, l1, l2⟩⟩, ⟨c1.1, c1.2, c2.1, c2.2, c3.1, c3.2, c4.1, c4.2⟩, o1, o2⟩
      · exact ⟨⟨⟨x0, rfl, x2⟩, ⟨y0, rfl, y2⟩, ⟨r0, rfl, r2'⟩, ⟨l0, rfl, l2⟩⟩, o0, ⟨c1.1, c1.2, c2.1, c2.2, c3.1, c3.2, c4.1, c4.2⟩, o2⟩
      · exact ⟨⟨⟨x0, x1, rfl⟩, ⟨y0, y1, rfl⟩, ⟨r0, r1', rfl⟩, ⟨l0, l1, rfl⟩⟩, o0, o1, ⟨c1.1, c1.2, c2.1, c2.2, c3.1, c3.2, c4.1, c4.2⟩⟩
    · exact absurd a2 b2
  · rcases hm with ⟨-, b2, -⟩ | ⟨b1, -, rfl⟩
    · exact absurd b2 a2
    · exact ⟨a1.trans b1.symm, T, fun _ _ => rfl⟩
theorem td_colI {v : Int32} : (0 ≤ v ∧ v ≤ 16777215) ↔ (0 ≤ v ∧ v < 16777216) := by
  have c1 : (16777215 : Int32).toInt = 16777215 := by decide
  have c2 : (16777216 : Int32).toInt = 16777216 := by decide
  rw [td_le32, td_le32, td_lt32, c1, c2]
  omega
theorem td_colN {v : Int32} (h : 0 ≤ v ∧ v < 16777216) : 0 ≤ v.toInt ∧ v.toInt < 16777216 := by
  have c2 : (16777216 : Int32).toInt = 16777216 := by decide
  rw [td_le32, td_lt32, c2, td_v6] at h
  exact h
theorem td_covN {v : Int32} (h : 0 ≤ v ∧ v ≤ 255) : 0 ≤ v.toInt ∧ v.toInt ≤ 255 := by
  have c2 : (255 : Int32).toInt = 255 := by decide
  rw [td_le32, td_le32, c2, td_v6] at h
  exact h
theorem td_caT {g : Nat → Int32} {X Y R L : Nat → Int64} (T : td_Txt g X Y R L) : td_ca X Y = td_AL g 7168 := by
  obtain ⟨⟨⟨x0, x1, x2⟩, ⟨y0, y1, y2⟩, -⟩, o0, o1, o2⟩ := T
  show _ = td_eL g 7168 (7168 + 4) (g (7168 + 8)).toInt64 (g (7168 + 8 + 1)).toInt64
  rw [td_eLs o0 o1]
  show (X 1 - X 0) * (Y 2 - Y 0) - (X 2 - X 0) * (Y 1 - Y 0) = _
  rw [x0, x1, x2, y0, y1, y2, Int64.mul_comm ((g (7168 + 8)).toInt64 - (g 7168).toInt64)]
theorem td_u3n {f : Nat → Int64} {n : Nat} {a b c : Int64} {z : Nat} : vp_updL (vp_updL (vp_updL f (3 * n + 0) a) (3 * n + 1) b) (3 * n + 2) c z = if z = 3 * n + 2 then c else if z = 3 * n + 1 then b else if z = 3 * n + 0 then a else f z := rfl
theorem td_L_add {g gg : Nat → Int32} {n gn hn : Nat} {vX vY vR vL fC gC : Nat → Int64} {fT fV gT gV : Nat → Int32} {tn cv r1 r2 : Int32} (T : td_Txt g vX vY vR vL) (P : td_Pcs g n fC fT fV)
    (hc : (r1 = -1 ∧ (¬ (0 ≤ tn ∧ tn ≤ 16777215) ∨ ¬ (0 ≤ cv ∧ cv ≤ 255) ∨ ¬ 0 < td_ca vX vY ∨ n = 512) ∧ gC = fC ∧ gT = fT ∧ gV = fV ∧ gn = n) ∨ (r1 = nI n ∧ (0 ≤ tn ∧ tn ≤ 16777215) ∧ (0 ≤ cv ∧ cv ≤ 255) ∧ 0 < td_ca vX vY ∧ n < 512 ∧ gC = vp_updL (vp_updL (vp_updL fC (3 * n + 0) (td_pk (vX 0) (vY 0) (vR 0) (vL 0))) (3 * n + 1) (td_pk (vX 1) (vY 1) (vR 1) (vL 1))) (3 * n + 2) (td_pk (vX 2) (vY 2) (vR 2) (vL 2)) ∧ gT = upd fT n tn ∧ gV = upd fV n cv ∧ gn = n + 1))
    (hm : (r2 = -1 ∧ ¬ ((0 ≤ tn ∧ tn < 16777216) ∧ (0 ≤ cv ∧ cv ≤ 255) ∧ 0 < td_AL g 7168 ∧ n < 512) ∧ gg = g ∧ hn = n) ∨ (r2 = nI n ∧ ((0 ≤ tn ∧ tn < 16777216) ∧ (0 ≤ cv ∧ cv ≤ 255) ∧ 0 < td_AL g 7168 ∧ n < 512) ∧ hn = n + 1 ∧ td_added g n tn cv gg)) : r1 = r2 ∧ gn = hn ∧ td_Txt gg vX vY vR vL ∧ td_Pcs gg gn gC gT gV := by
  have hca := td_caT T
  rcases hc with ⟨a1, a2, rfl, rfl, rfl, rfl⟩ | ⟨a1, a2, a3, a4, a5, rfl, rfl, rfl, rfl⟩
  · rcases hm with ⟨b1, -, rfl, rfl⟩ | ⟨-, ⟨b2, b3, b4, b5⟩, -⟩
    · exact ⟨a1.trans b1.symm, rfl, T, P⟩
    · rw [hca] at a2
      rcases a2 with h | h | h | h
      · exact absurd (td_colI.mpr b2) h
      · exact absurd b3 h
      · exact absurd b4 h
      · omega
  · rcases hm with ⟨-, b2, -⟩ | ⟨b1, b2, rfl, b3⟩
    · rw [hca] at a4
      exact absurd ⟨td_colI.mp a2, a3, a4, a5⟩ b2
    · have big : ∀ z, 7168 ≤ z → gg z = g z := fun z hz => by rw [b3 z, if_neg (by omega), if_neg (by omega), if_neg (by omega)]
      have low : ∀ z, z < 14 * n → gg z = g z := fun z hz => by rw [b3 z, if_neg (by omega), if_neg (by omega), if_neg (by omega)]
      have mid : ∀ z, z < 12 → gg (14 * n + z) = g (7168 + z) := fun z hz => by
        rw [b3, if_neg (by omega), if_neg (by omega), if_pos (by omega)]
        congr 2; omega
      have e12 : gg (14 * n + 12) = tn := by rw [b3, if_neg (by omega), if_pos rfl]
      have e13 : gg (14 * n + 13) = cv := by rw [b3, if_pos rfl]
      refine ⟨a1.trans b1.symm, rfl, ?_, by omega, fun t ht => ?_⟩
      · obtain ⟨⟨⟨x0, x1, x2⟩, ⟨y0, y1, y2⟩, ⟨r0, r1', r2'⟩, ⟨l0, l1, l2⟩⟩, o0, o1, o2⟩ := T
        unfold td_Txt td_sc td_ok
        rw [big 7168 (by omega), big (7168 + 1) (by omega), big (7168 + 2) (by omega), big (7168 + 3) (by omega), big (7168 + 4) (by omega), big (7168 + 4 + 1) (by omega), big (7168 + 4 + 2) (by omega), big (7168 + 4 + 3) (by omega), big (7168 + 8) (by omega), big (7168 + 8 + 1) (by omega), big (7168 + 8 + 2) (by omega), big (7168 + 8 + 3) (by omega)]
        exact ⟨⟨⟨x0, x1, x2⟩, ⟨y0, y1, y2⟩, ⟨r0, r1', r2'⟩, ⟨l0, l1, l2⟩⟩, o0, o1, o2⟩
      · by_cases e : t = n
        · subst e
          have m0 : gg (14 * t) = g 7168 := mid 0 (by decide)
          have m1 : gg (14 * t + 1) = g (7168 + 1) := mid 1 (by decide)
          have m2 : gg (14 * t + 2) = g (7168 + 2) := mid 2 (by decide)
          have m3 : gg (14 * t + 3) = g (7168 + 3) := mid 3 (by decide)
          have m4 : gg (14 * t + 4) = g (7168 + 4) := mid 4 (by decide)
          have m5 : gg (14 * t + 4 + 1) = g (7168 + 4 + 1) := mid 5 (by decide)
          have m6 : gg (14 * t + 4 + 2) = g (7168 + 4 + 2) := mid 6 (by decide)
          have m7 : gg (14 * t + 4 + 3) = g (7168 + 4 + 3) := mid 7 (by decide)
          have m8 : gg (14 * t + 8) = g (7168 + 8) := mid 8 (by decide)
          have m9 : gg (14 * t + 8 + 1) = g (7168 + 8 + 1) := mid 9 (by decide)
          have m10 : gg (14 * t + 8 + 2) = g (7168 + 8 + 2) := mid 10 (by decide)
          have m11 : gg (14 * t + 8 + 3) = g (7168 + 8 + 3) := mid 11 (by decide)
          obtain ⟨⟨⟨x0, x1, x2⟩, ⟨y0, y1, y2⟩, ⟨r0, r1', r2'⟩, ⟨l0, l1, l2⟩⟩, o0, o1, o2⟩ := T
          have hA : 0 < td_A g 7168 := by
            have h1 := td_area o0 o1 o2
            rw [hca, td_lt64, h1] at a4
            exact a4
          have c1 := td_colN (td_colI.mp a2)
          have c2 := td_covN a3
          refine ⟨⟨?_, ?_, ?_, ?_, by rw [e12]; exact c1.1, by rw [e12]; exact c1.2, by rw [e13]; exact c2.1, by rw [e13]; exact c2.2⟩, ⟨?_, ?_, ?_⟩, by rw [e12]; exact pk_us, by rw [e13]; exact pk_us⟩
          · unfold td_ok at *; rw [m0, m1, m2, m3]; exact o0
          · unfold td_ok at *; rw [m4, m5, m6, m7]; exact o1
          · unfold td_ok at *; rw [m8, m9, m10, m11]; exact o2
          · show 0 < ((gg (14 * t + 4)).toInt - (gg (14 * t)).toInt) * ((gg (14 * t + 8 + 1)).toInt - (gg (14 * t + 1)).toInt) - ((gg (14 * t + 4 + 1)).toInt - (gg (14 * t + 1)).toInt) * ((gg (14 * t + 8)).toInt - (gg (14 * t)).toInt)
            rw [m0, m1, m4, m5, m8, m9]
            exact hA
          · rw [td_u3n, if_neg (by omega), if_neg (by omega), if_pos rfl, m0, m1, m2, m3, x0, y0, r0, l0]
          · rw [td_u3n, if_neg (by omega), if_pos rfl, m4, m5, m6, m7, x1, y1, r1', l1]
          · rw [td_u3n, if_pos rfl, m8, m9, m10, m11, x2, y2, r2', l2]
        · obtain ⟨q1, q2, q3, q4⟩ := P.2 t (by omega)
          have k12 := low (14 * t + 12) (by omega)
          have k13 := low (14 * t + 13) (by omega)
          exact ⟨td_pc_congr (fun z hz => low _ (by omega)) q1, td_pkd_congr (fun z hz => low _ (by omega)) (fun z hz => by rw [td_u3n, if_neg (by omega), if_neg (by omega), if_neg (by omega)]) q2, by rw [k12, pk_un e]; exact q3, by rw [k13, pk_un e]; exact q4⟩
theorem td_L_bg {bk mb gb hb r1 r2 co : Int32} {b : Nat} (e1 : bk = nI b) (e2 : mb = nI b) (hb1 : b < 16777216) (hc : (r1 = 1 ∧ (0 ≤ co ∧ co ≤ 16777215) ∧ gb = co) ∨ (r1 = 0 ∧ ¬ (0 ≤ co ∧ co ≤ 16777215) ∧ gb = bk))
    (hm : r2 = td_bz (0 ≤ co ∧ co < 16777216) ∧ ((0 ≤ co ∧ co < 16777216) ∧ hb = co ∨ ¬ (0 ≤ co ∧ co < 16777216) ∧ hb = mb)) : r1 = r2 ∧ ∃ b2 : Nat, gb = nI b2 ∧ hb = nI b2 ∧ b2 < 16777216 := by
  obtain ⟨m1, m2⟩ := hm
  rcases hc with ⟨a1, a2, a3⟩ | ⟨a1, a2, a3⟩
  · have a4 := td_colI.mp a2
    have c := td_colN a4
    rcases m2 with ⟨-, m3⟩ | ⟨m3, -⟩
    · exact ⟨by rw [a1, m1, td_bz1 a4], co.toInt.toNat, by rw [a3]; exact td_ofI c.1, by rw [m3]; exact td_ofI c.1, by omega⟩
    · exact absurd a4 m3
  · rcases m2 with ⟨m3, -⟩ | ⟨m3, m4⟩
    · exact absurd (td_colI.mpr m3) a2
    · exact ⟨by rw [a1, m1, td_bz0 m3], b, by rw [a3, e1], by rw [m4, e2], hb1⟩
theorem td_dn_z {f : Nat → Int32} {t : Nat} (h : ∀ z, z < t → f z = 0) : td_dn f t = 0 := by
  induction t with
  | zero => rfl
  | succ t ih =>
    show td_dn f t + (if f t = 0 then 0 else 1) = 0
    rw [if_pos (h t (by omega)), ih (fun z hz => h z (by omega))]
    rfl
theorem td_dn_lo {f : Nat → Int32} {k t : Nat} {v : Int32} (h : t ≤ k) : td_dn (upd f k v) t = td_dn f t := by
  induction t with
  | zero => rfl
  | succ t ih =>
    show td_dn (upd f k v) t + (if upd f k v t = 0 then 0 else 1) = td_dn f t + (if f t = 0 then 0 else 1)
    rw [ih (by omega), pk_un (by omega)]
theorem td_dn_up {f : Nat → Int32} {k t : Nat} (hk : k < t) (h0 : f k = 0) : td_dn (upd f k 1) t = td_dn f t + 1 := by
  induction t with
  | zero => omega
  | succ t ih =>
    show td_dn (upd f k 1) t + (if upd f k 1 t = 0 then 0 else 1) = td_dn f t + (if f t = 0 then 0 else 1) + 1
    by_cases e : k = t
    · subst e
      rw [td_dn_lo (Nat.le_refl _), pk_us, if_neg (by decide), if_pos h0]
      rw [Int32.add_zero]
    · rw [ih (by omega), pk_un (by omega), Int32.add_assoc, Int32.add_comm 1, ← Int32.add_assoc]
theorem td_L_begin {w h n b : Nat} {g gc gn gD fD fc fn : Nat → Int32} {bk r1 r2 : Int32} (hb : bk = nI b) (hb1 : b < 16777216) (hw : w ≤ 48) (hh : h ≤ 48)
    (hc : r1 = nI ((w + 7) / 8 * ((h + 7) / 8)) ∧ ∀ z, z < (w + 7) / 8 * ((h + 7) / 8) → fD z = 0)
    (hm : r2 = nI ((w + 7) / 8 * ((h + 7) / 8)) ∧ (∀ z, z < 36 → gD z = 0) ∧ ∀ i j, i < w → j < h → gc (48 * j + i) = nI (td_px g b i j n).1 ∧ gn (48 * j + i) = nI (td_px g b i j n).2) :
    r1 = r2 ∧ td_Pic w h g b n bk 1 0 1 (nI n) fc fn fD gc gn gD := by
  obtain ⟨c1, c2⟩ := hc
  obtain ⟨m1, m2, m3⟩ := hm
  have h36 : (w + 7) / 8 * ((h + 7) / 8) ≤ 36 := td_tt (by omega) (by omega)
  refine ⟨c1.trans m1.symm, ⟨hb, hb1, rfl, rfl, (td_dn_z m2).symm⟩, fun k hk => by rw [c2 k hk, m2 k (by omega)], fun k _ hk => m2 k hk, fun z => absurd z (by decide), fun _ => m3, fun i j hi hj hz => ?_⟩
  exact absurd (c2 _ (td_tix (by omega) (by omega))) hz
theorem td_Pcs_take {g : Nat → Int32} {n : Nat} {fC fCT : Nat → Int64} {fT fV fTT fVT : Nat → Int32} (P : td_Pcs g n fC fT fV) : td_Pcs g n (va_cpy fC fCT 0 0 (3 * n)) (va_cpy fT fTT 0 0 n) (va_cpy fV fVT 0 0 n) := by
  refine ⟨P.1, fun t ht => ?_⟩
  obtain ⟨q1, q2, q3, q4⟩ := P.2 t ht
  have key : ∀ {α : Type} (f g : Nat → α) (m z : Nat), z < m → va_cpy f g 0 0 m z = f z := fun f g m z hz => by
    rw [pk_cpy_in (Nat.zero_le _) (by omega)]
    congr 1; omega
  exact ⟨q1, td_pkd_congr (fun _ _ => rfl) (fun z hz => key _ _ _ _ (by omega)) q2, by rw [key _ _ _ _ ht]; exact q3, by rw [key _ _ _ _ ht]; exact q4⟩
theorem td_L_tile {w h mt bgN : Nat} {g fc fn fD gc gn gD hc2 hn2 hD2 mD2 : Nat → Int32} {bg bn dt mg tk k r1 r2 hdt : Int32} (hw : w ≤ 48) (hh : h ≤ 48) (P : td_Pic w h g bgN mt bg bn dt mg tk fc fn fD gc gn gD)
    (hc : (r1 = 0 ∧ (hc2 = fc ∧ hn2 = fn ∧ hD2 = fD ∧ hdt = dt) ∧ (bn = 0 ∨ k < 0 ∨ nI ((w + 7) / 8 * ((h + 7) / 8)) ≤ k ∨ ∃ kk, kk < (w + 7) / 8 * ((h + 7) / 8) ∧ k = nI kk ∧ ¬ fD kk = 0)) ∨
      (r1 = 1 ∧ ¬ bn = 0 ∧ ∃ kk, kk < (w + 7) / 8 * ((h + 7) / 8) ∧ k = nI kk ∧ fD kk = 0 ∧ hD2 = upd fD kk 1 ∧ hdt = dt + 1 ∧ ∀ i j, i < w → j < h → (j / 8 * ((w + 7) / 8) + i / 8 = kk → hc2 (j * w + i) = nI (td_px g bgN i j mt).1 ∧ hn2 (j * w + i) = nI (td_px g bgN i j mt).2) ∧ (¬ j / 8 * ((w + 7) / 8) + i / 8 = kk → hc2 (j * w + i) = fc (j * w + i) ∧ hn2 (j * w + i) = fn (j * w + i))))
    (hm : (r2 = 0 ∧ mD2 = gD ∧ (mg = 0 ∨ k < 0 ∨ nI ((w + 7) / 8 * ((h + 7) / 8)) ≤ k ∨ ∃ kk, kk < (w + 7) / 8 * ((h + 7) / 8) ∧ k = nI kk ∧ ¬ gD kk = 0)) ∨ (r2 = 1 ∧ ¬ mg = 0 ∧ ∃ kk, kk < (w + 7) / 8 * ((h + 7) / 8) ∧ k = nI kk ∧ gD kk = 0 ∧ mD2 = upd gD kk 1)) :
    r1 = r2 ∧ td_Pic w h g bgN mt bg bn hdt mg tk hc2 hn2 hD2 gc gn mD2 := by
  have h36 : (w + 7) / 8 * ((h + 7) / 8) ≤ 36 := td_tt (by omega) (by omega)
  obtain ⟨⟨p1, p2, p3, p4, p5⟩, p6, p7, p8, p9, p10⟩ := id P
  rcases hc with ⟨a1, ⟨rfl, rfl, rfl, rfl⟩, a2⟩ | ⟨a1, a2, kk, a3, a4, a5, rfl, rfl, a6⟩
  · rcases hm with ⟨b1, rfl, -⟩ | ⟨-, b2, k2, b3, b4, b5, -⟩
    · exact ⟨a1.trans b1.symm, P⟩
    · exfalso
      rcases a2 with z | z | z | ⟨k3, z1, z2, z3⟩
      · exact b2 (p3 ▸ z)
      · rw [b4] at z; exact nI_pos (by omega) z
      · rw [b4] at z
        exact absurd ((nI_leI (by omega) (by omega)).mp z) (by omega)
      · have e : k3 = k2 := (nI_eq (by omega) (by omega)).mp (z2.symm.trans b4)
        subst e
        exact z3 ((p6 k3 z1).trans b5)
  · have a5' : gD kk = 0 := (p6 kk a3).symm.trans a5
    rcases hm with ⟨-, -, b2⟩ | ⟨b1, b2, k2, b3, b4, b5, rfl⟩
    · exfalso
      rcases b2 with z | z | z | ⟨k3, z1, z2, z3⟩
      · exact a2 (p3.trans z)
      · rw [a4] at z; exact nI_pos (by omega) z
      · rw [a4] at z
        exact absurd ((nI_leI (by omega) (by omega)).mp z) (by omega)
      · have e : k3 = kk := (nI_eq (by omega) (by omega)).mp (z2.symm.trans a4)
        subst e
        exact z3 a5'
    · have e : k2 = kk := (nI_eq (by omega) (by omega)).mp (b4.symm.trans a4)
      subst e
      refine ⟨a1.trans b1.symm, ⟨p1, p2, p3, p4, by rw [p5, td_dn_up (by omega) b5]⟩, fun z hz => ?_, fun z hz hz2 => ?_, fun z => absurd z b2, p9, fun i j hi hj hz => ?_⟩
      · unfold upd
        by_cases e : z = k2
        · rw [if_pos e, if_pos e]
        · rw [if_neg e, if_neg e]; exact p6 z hz
      · rw [pk_un (by omega)]; exact p7 z hz hz2
      · by_cases e : j / 8 * ((w + 7) / 8) + i / 8 = k2
        · exact (a6 i j hi hj).1 e
        · obtain ⟨q1, q2⟩ := (a6 i j hi hj).2 e
          rw [pk_un e] at hz
          rw [q1, q2]
          exact p10 i j hi hj hz
theorem td_shms {w h : Nat} {fD gD : Nat → Int32} {x y : Int32} (hw1 : 8 ≤ w) (hw : w ≤ 48) (hh1 : 8 ≤ h) (hh : h ≤ 48) (he : ∀ k, k < (w + 7) / 8 * ((h + 7) / 8) → fD k = gD k) : td_sh x y w h ((w + 7) / 8) fD ↔ td_ms x y w h gD := by
  have k1 : ∀ (v : Int32) (a : Nat), 8 ≤ a → a ≤ 48 → ((0 ≤ v ∧ v ≤ nI (a - 1)) ↔ (0 ≤ v ∧ v < nI a)) := fun v a h1 h2 => by
    rw [td_le32, td_le32, td_lt32, nI_toInt (by omega), nI_toInt (by omega)]
    omega
  have kx := k1 x w hw1 hw
  have ky := k1 y h hh1 hh
  constructor
  · rintro ⟨a1, a2, a3⟩
    obtain ⟨X, hX, eX⟩ := td_nat a1 (by omega)
    obtain ⟨Y, hY, eY⟩ := td_nat a2 (by omega)
    refine ⟨kx.mp a1, ky.mp a2, ?_⟩
    rw [td_tn eX (by omega), td_tn eY (by omega)] at a3 ⊢
    rw [← he _ (td_tix (by omega) (by omega))]
    exact a3
  · rintro ⟨a1, a2, a3⟩
    have b1 := kx.mpr a1
    have b2 := ky.mpr a2
    obtain ⟨X, hX, eX⟩ := td_nat b1 (by omega)
    obtain ⟨Y, hY, eY⟩ := td_nat b2 (by omega)
    refine ⟨b1, b2, ?_⟩
    rw [td_tn eX (by omega), td_tn eY (by omega)] at a3 ⊢
    rw [he _ (td_tix (by omega) (by omega))]
    exact a3
theorem td_L_pix {w h mt bgN : Nat} {g fc fn fD gc gn gD : Nat → Int32} {bg bn dt mg tk x y r1 r2 : Int32} (hw1 : 8 ≤ w) (hw : w ≤ 48) (hh1 : 8 ≤ h) (hh : h ≤ 48) (P : td_Pic w h g bgN mt bg bn dt mg tk fc fn fD gc gn gD)
    (hm : r2 = if ¬ mg = 0 ∧ td_ms x y w h gD then gc (48 * y.toInt.toNat + x.toInt.toNat) else -1) : (if td_sh x y w h ((w + 7) / 8) fD then fc (y.toInt.toNat * w + x.toInt.toNat) else -1) = r2 := by
  obtain ⟨⟨p1, p2, p3, p4, p5⟩, p6, p7, p8, p9, p10⟩ := P
  have e := td_shms (x := x) (y := y) hw1 hw hh1 hh p6
  have h36 : (w + 7) / 8 * ((h + 7) / 8) ≤ 36 := td_tt (by omega) (by omega)
  rw [hm]
  by_cases z : td_sh x y w h ((w + 7) / 8) fD
  · obtain ⟨X, hX, eX⟩ := td_nat z.1 (by omega)
    obtain ⟨Y, hY, eY⟩ := td_nat z.2.1 (by omega)
    have z3 := z.2.2
    have hmg : ¬ mg = 0 := fun q => (e.mp z).2.2 (p8 q _ (by
      rw [td_tn eX (by omega), td_tn eY (by omega)]
      exact Nat.lt_of_lt_of_le (td_tix (a := Y / 8) (b := X / 8) (ta := (w + 7) / 8) (th := (h + 7) / 8) (by omega) (by omega)) h36))
    rw [if_pos z, if_pos ⟨hmg, e.mp z⟩]
    rw [td_tn eX (by omega), td_tn eY (by omega)] at z3 ⊢
    rw [(p10 X Y (by omega) (by omega) z3).1, (p9 hmg X Y (by omega) (by omega)).1]
  · rw [if_neg z, if_neg (fun q => z (e.mpr q.2))]
theorem td_L_nea {w h mt bgN : Nat} {g fc fn fD gc gn gD : Nat → Int32} {bg bn dt mg tk x y r1 r2 : Int32} (hw1 : 8 ≤ w) (hw : w ≤ 48) (hh1 : 8 ≤ h) (hh : h ≤ 48) (P : td_Pic w h g bgN mt bg bn dt mg tk fc fn fD gc gn gD)
    (hm : r2 = if ¬ mg = 0 ∧ td_ms x y w h gD then gn (48 * y.toInt.toNat + x.toInt.toNat) else -1) : (if td_sh x y w h ((w + 7) / 8) fD then fn (y.toInt.toNat * w + x.toInt.toNat) else -1) = r2 := by
  obtain ⟨⟨p1, p2, p3, p4, p5⟩, p6, p7, p8, p9, p10⟩ := P
  have e := td_shms (x := x) (y := y) hw1 hw hh1 hh p6
  have h36 : (w + 7) / 8 * ((h + 7) / 8) ≤ 36 := td_tt (by omega) (by omega)
  rw [hm]
  by_cases z : td_sh x y w h ((w + 7) / 8) fD
  · obtain ⟨X, hX, eX⟩ := td_nat z.1 (by omega)
    obtain ⟨Y, hY, eY⟩ := td_nat z.2.1 (by omega)
    have z3 := z.2.2
    have hmg : ¬ mg = 0 := fun q => (e.mp z).2.2 (p8 q _ (by
      rw [td_tn eX (by omega), td_tn eY (by omega)]
      exact Nat.lt_of_lt_of_le (td_tix (a := Y / 8) (b := X / 8) (ta := (w + 7) / 8) (th := (h + 7) / 8) (by omega) (by omega)) h36))
    rw [if_pos z, if_pos ⟨hmg, e.mp z⟩]
    rw [td_tn eX (by omega), td_tn eY (by omega)] at z3 ⊢
    rw [(p10 X Y (by omega) (by omega) z3).2, (p9 hmg X Y (by omega) (by omega)).2]
  · rw [if_neg z, if_neg (fun q => z (e.mpr q.2))]
/-- a side of the picture -/
theorem td_sides (v : Int32) : ∃ w : Nat, 8 ≤ w ∧ w ≤ 48 ∧ (if 8 < (if v < 48 then v else 48) then (if v < 48 then v else 48) else 8) = nI w ∧ (if 8 ≤ v then (if v ≤ 48 then v else 48) else 8) = nI w := by
  have c8 : (8 : Int32).toInt = 8 := by decide
  have c48 : (48 : Int32).toInt = 48 := by decide
  by_cases h1 : v < 48
  · rw [if_pos h1]
    by_cases h2 : 8 < v
    · have h3 := h1
      have h4 := h2
      rw [td_lt32, c48] at h3
      rw [td_lt32, c8] at h4
      refine ⟨v.toInt.toNat, by omega, by omega, ?_, ?_⟩
      · rw [if_pos h2]; exact td_ofI (by omega)
      · rw [if_pos (td_le32.mpr (by rw [c8]; omega)), if_pos (td_le32.mpr (by rw [c48]; omega))]; exact td_ofI (by omega)
    · have h4 := h2
      rw [td_lt32, c8] at h4
      refine ⟨8, by omega, by omega, by rw [if_neg h2]; rfl, ?_⟩
      by_cases h5 : 8 ≤ v
      · rw [if_pos h5]
        rw [td_le32, c8] at h5
        rw [if_pos (td_le32.mpr (by rw [c48]; omega))]
        exact td_eq32 (by rw [nI_toInt (by decide)]; omega)
      · rw [if_neg h5]; rfl
  · have h3 := h1
    rw [td_lt32, c48] at h3
    refine ⟨48, by omega, by omega, ?_, ?_⟩
    · rw [if_neg h1, if_pos (by decide)]; rfl
    · rw [if_pos (td_le32.mpr (by rw [c8]; omega))]
      by_cases h5 : v ≤ 48
      · rw [if_pos h5]
        rw [td_le32, c48] at h5
        exact td_eq32 (by rw [nI_toInt (by decide)]; omega)
      · rw [if_neg h5]; rfl
/-- the start -/
theorem td_I_txt : td_Txt (upd (upd (upd (fun _ => 0) 7170 1) 7174 1) 7178 1) (fun _ => 0) (fun _ => 0) (vp_updL (vp_updL (vp_updL (fun _ => 0) 0 1) 1 1) 2 1) (fun _ => 0) := by
  unfold td_Txt td_sc td_ok
  decide +kernel
theorem td_I_pcs {g : Nat → Int32} {fC : Nat → Int64} {fT fV : Nat → Int32} : td_Pcs g 0 fC fT fV := ⟨by omega, fun t ht => absurd ht (Nat.not_lt_zero _)⟩
theorem td_I_pic {w h : Nat} {g fc fn gc gn : Nat → Int32} : td_Pic w h g 0 0 0 0 0 0 0 fc fn (fun _ => 0) gc gn (fun _ => 0) := ⟨⟨rfl, by decide, rfl, rfl, (td_dn_z (fun _ _ => rfl)).symm⟩, fun _ _ => rfl, fun _ _ _ => rfl, fun _ _ _ => rfl, fun z => absurd rfl z, fun _ _ _ _ z => absurd rfl z⟩
