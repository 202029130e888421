/-! One piece at one pixel: as the class paints it. -/
abbrev td_sh (x y : Int32) (w h ta : Nat) (fD : Nat → Int32) : Prop := (0 ≤ x ∧ x ≤ nI (w - 1)) ∧ (0 ≤ y ∧ y ≤ nI (h - 1)) ∧ ¬ fD (y.toInt.toNat / 8 * ta + x.toInt.toNat / 8) = 0
def td_pt (T nr lt C c0 n0 : Nat) : Nat × Nat := if nr ≤ n0 then (c0, n0) else (td_ov T lt C c0, if C = 255 then nr else n0)
theorem td_pt0 {T nr lt C c0 n0 : Nat} (h : nr ≤ n0) : td_pt T nr lt C c0 n0 = (c0, n0) := if_pos h
theorem td_pt1 {T nr lt C c0 n0 : Nat} (h : n0 < nr) (hC : C = 255) : td_pt T nr lt C c0 n0 = (td_lit T lt, nr) := by
  unfold td_pt td_ov
  rw [if_neg (by omega), if_pos hC, if_pos hC]
theorem td_pt2 {T nr lt C c0 n0 : Nat} (h : n0 < nr) (hC : C ≠ 255) : td_pt T nr lt C c0 n0 = (td_mix (td_lit T lt) c0 C, n0) := by
  unfold td_pt td_ov
  rw [if_neg (by omega), if_neg hC, if_neg hC]
theorem td_stp0 {g : Nat → Int32} {a i j : Nat} {q : Nat × Nat} (h : ¬ td_cov g a (td_x i) (td_x j)) : td_stp g a i j q = q := by
  unfold td_stp
  rw [if_neg h]
theorem td_stp1 {g : Nat → Int32} {a i j : Nat} {q : Nat × Nat} (h : td_cov g a (td_x i) (td_x j)) : td_stp g a i j q = td_pt (g (a + 12)).toInt.toNat (td_near g a (td_x i) (td_x j)) (td_lig g a (td_x i) (td_x j)) (g (a + 13)).toInt.toNat q.1 q.2 := by
  unfold td_stp td_pt
  rw [if_pos h]
theorem td_pt_b {T nr lt C c0 n0 : Nat} (hT : T < 16777216) (h1 : nr ≤ 1048576) (h2 : lt ≤ 65536) (hC : C ≤ 255) (h3 : c0 < 16777216) (h4 : n0 ≤ 1048576) : (td_pt T nr lt C c0 n0).1 < 16777216 ∧ (td_pt T nr lt C c0 n0).2 ≤ 1048576 := by
  unfold td_pt
  split
  · exact ⟨h3, h4⟩
  · refine ⟨td_ov_le hT h2 hC h3, ?_⟩
    show (if C = 255 then nr else n0) ≤ _
    split <;> omega
theorem td_stp_b {g : Nat → Int32} {a i j : Nat} {q : Nat × Nat} (hp : td_pc g a) (hi : i < 48) (hj : j < 48) (h3 : q.1 < 16777216) (h4 : q.2 ≤ 1048576) : (td_stp g a i j q).1 < 16777216 ∧ (td_stp g a i j q).2 ≤ 1048576 := by
  by_cases h : td_cov g a (td_x i) (td_x j)
  · rw [td_stp1 h]
    obtain ⟨-, -, -, -, m5, -, m7⟩ := td_mach hp hi hj h rfl rfl rfl rfl rfl
    obtain ⟨-, -, -, -, t1, t2, t3, t4⟩ := hp
    exact td_pt_b (by omega) m5 m7 (by omega) h3 h4
  · rw [td_stp0 h]; exact ⟨h3, h4⟩
theorem td_px_b {g : Nat → Int32} {bg i j n : Nat} (hp : ∀ k, k < n → td_pc g (14 * k)) (hi : i < 48) (hj : j < 48) (hb : bg < 16777216) : (td_px g bg i j n).1 < 16777216 ∧ (td_px g bg i j n).2 ≤ 1048576 := by
  induction n with
  | zero => exact ⟨hb, Nat.zero_le _⟩
  | succ n ih =>
    obtain ⟨h1, h2⟩ := ih (fun k hk => hp k (by omega))
    exact td_stp_b (hp n (by omega)) hi hj h1 h2
/-- the three packed corners of a piece -/
def td_pkd (g : Nat → Int32) (a b : Nat) (f : Nat → Int64) : Prop := f (b + 0) = td_pk (g a).toInt64 (g (a + 1)).toInt64 (g (a + 2)).toInt64 (g (a + 3)).toInt64 ∧ f (b + 1) = td_pk (g (a + 4)).toInt64 (g (a + 4 + 1)).toInt64 (g (a + 4 + 2)).toInt64 (g (a + 4 + 3)).toInt64 ∧ f (b + 2) = td_pk (g (a + 8)).toInt64 (g (a + 8 + 1)).toInt64 (g (a + 8 + 2)).toInt64 (g (a + 8 + 3)).toInt64
theorem td_unok {g : Nat → Int32} {a : Nat} (h : td_ok g a) {p : Int64} (hp : p = td_pk (g a).toInt64 (g (a + 1)).toInt64 (g (a + 2)).toInt64 (g (a + 3)).toInt64) : td_ux p = (g a).toInt64 ∧ td_uy p = (g (a + 1)).toInt64 ∧ td_ur p = (g (a + 2)).toInt64 ∧ td_ul p = (g (a + 3)).toInt64 := by
  obtain ⟨a1, a2, a3, a4, a5, a6, a7, a8⟩ := h
  rw [hp]
  exact td_unpk (by rw [Int32.toInt_toInt64]; omega) (by rw [Int32.toInt_toInt64]; omega) (by rw [Int32.toInt_toInt64]; omega) (by rw [Int32.toInt_toInt64]; omega) (by rw [Int32.toInt_toInt64]; omega) (by rw [Int32.toInt_toInt64]; omega) (by rw [Int32.toInt_toInt64]; omega) (by rw [Int32.toInt_toInt64]; omega)
theorem td_u3 {v X : Nat → Int64} {a b c : Int64} (h : X = vp_updL (vp_updL (vp_updL v 0 a) 1 b) 2 c) : X 0 = a ∧ X 1 = b ∧ X 2 = c := by
  subst h
  exact ⟨rfl, rfl, rfl⟩
theorem td_scof {g : Nat → Int32} {a b : Nat} {f vX vY vR vL X Y R L : Nat → Int64} (hp : td_pc g a) (hc : td_pkd g a b f)
    (hX : X = vp_updL (vp_updL (vp_updL vX 0 (td_ux (f (b + 0)))) 1 (td_ux (f (b + 1)))) 2 (td_ux (f (b + 2)))) (hY : Y = vp_updL (vp_updL (vp_updL vY 0 (td_uy (f (b + 0)))) 1 (td_uy (f (b + 1)))) 2 (td_uy (f (b + 2))))
    (hR : R = vp_updL (vp_updL (vp_updL vR 0 (td_ur (f (b + 0)))) 1 (td_ur (f (b + 1)))) 2 (td_ur (f (b + 2)))) (hL : L = vp_updL (vp_updL (vp_updL vL 0 (td_ul (f (b + 0)))) 1 (td_ul (f (b + 1)))) 2 (td_ul (f (b + 2)))) : td_sc g a X Y R L := by
  obtain ⟨c0, c1, c2⟩ := hc
  obtain ⟨x0, y0, r0, l0⟩ := td_unok hp.1 c0
  obtain ⟨x1, y1, r1, l1⟩ := td_unok hp.2.1 c1
  obtain ⟨x2, y2, r2, l2⟩ := td_unok hp.2.2.1 c2
  obtain ⟨X0, X1, X2⟩ := td_u3 hX
  obtain ⟨Y0, Y1, Y2⟩ := td_u3 hY
  obtain ⟨R0, R1, R2⟩ := td_u3 hR
  obtain ⟨L0, L1, L2⟩ := td_u3 hL
  exact ⟨⟨X0.trans x0, X1.trans x1, X2.trans x2⟩, ⟨Y0.trans y0, Y1.trans y1, Y2.trans y2⟩, ⟨R0.trans r0, R1.trans r1, R2.trans r2⟩, ⟨L0.trans l0, L1.trans l1, L2.trans l2⟩⟩
theorem td_ofI {x : Int32} (h : 0 ≤ x.toInt) : x = nI x.toInt.toNat := td_eq32 (by
  have := Int32.toInt_lt x
  rw [nI_toInt (by omega)]
  omega)
theorem td_mx0 {lf : Nat} {v : Int32} (hl : lf < 1000) (b1 : -300 ≤ v.toInt) (b2 : v.toInt ≤ 300) : ∃ X0 : Nat, (lf ≤ X0 ∧ X0 < 1000) ∧ (if nI lf < v then v else nI lf) = nI X0 ∧ ((X0 : Int) = lf ∨ (X0 : Int) = v.toInt) := by
  by_cases h : nI lf < v
  · rw [if_pos h]
    rw [td_lt32, nI_toInt (by omega)] at h
    exact ⟨v.toInt.toNat, by omega, td_ofI (by omega), by omega⟩
  · rw [if_neg h]
    exact ⟨lf, by omega, rfl, Or.inl rfl⟩
theorem td_mn0 {rt : Nat} {v : Int32} (hl : 1 ≤ rt ∧ rt < 1000) (b1 : -300 ≤ v.toInt) (b2 : v.toInt ≤ 300) : ∃ xl : Int32, (if v < nI (rt - 1) then v else nI (rt - 1)) = xl ∧ xl.toInt ≤ (rt : Int) - 1 ∧ (xl.toInt = v.toInt ∨ xl.toInt = (rt : Int) - 1) := by
  by_cases h : v < nI (rt - 1)
  · rw [if_pos h]
    rw [td_lt32, nI_toInt (by omega)] at h
    exact ⟨v, rfl, by omega, Or.inl rfl⟩
  · rw [if_neg h]
    refine ⟨nI (rt - 1), rfl, ?_, Or.inr ?_⟩ <;> rw [nI_toInt (by omega)] <;> omega
theorem td_dI_start {w h lf tp rt bm Y0 : Nat} {st q : Nat → Nat → Nat × Nat} {fc fn : Nat → Int32} (hq : ∀ i j, (lf ≤ i ∧ i < rt) ∧ tp ≤ j ∧ j < bm → fc (j * w + i) = nI (q i j).1 ∧ fn (j * w + i) = nI (q i j).2) (hs : ∀ i j, (lf ≤ i ∧ i < rt) ∧ tp ≤ j ∧ j < bm → j < Y0 → st i j = q i j) : td_dI w h lf tp rt bm st q fc fn Y0 0 fc fn := fun i j _ _ => by
  refine ⟨fun ht => ?_, fun _ => ⟨rfl, rfl⟩⟩
  by_cases a : j < Y0 ∨ j = Y0 ∧ i < 0
  · rw [if_pos a, hs i j ht (by omega)]; exact hq i j ht
  · rw [if_neg a]; exact hq i j ht
/-- a tile holds the picture q, the rest what was there -/
def td_gI (w h lf tp rt bm : Nat) (q : Nat → Nat → Nat × Nat) (c0 n0 fc fn : Nat → Int32) : Prop := ∀ i j, i < w → j < h →
  ((lf ≤ i ∧ i < rt) ∧ tp ≤ j ∧ j < bm → fc (j * w + i) = nI (q i j).1 ∧ fn (j * w + i) = nI (q i j).2) ∧ (¬ ((lf ≤ i ∧ i < rt) ∧ tp ≤ j ∧ j < bm) → fc (j * w + i) = c0 (j * w + i) ∧ fn (j * w + i) = n0 (j * w + i))
theorem td_gI0 {w h lf tp rt bm b : Nat} {bg : Int32} {c0 n0 fc fn : Nat → Int32} (hb : bg = nI b) (h1 : td_fI w h lf tp rt bm lf bg c0 fc) (h2 : td_fI w h lf tp rt bm lf 0 n0 fn) : td_gI w h lf tp rt bm (fun _ _ => (b, 0)) c0 n0 fc fn := fun i j hi hj => by
  rw [h1 i j hi hj, h2 i j hi hj]
  refine ⟨fun ht => ?_, fun ht => ?_⟩
  · rw [if_pos (by omega), if_pos (by omega)]; exact ⟨hb, rfl⟩
  · rw [if_neg (by omega), if_neg (by omega)]; exact ⟨rfl, rfl⟩
theorem td_gI1 {w h lf tp rt bm : Nat} {st q : Nat → Nat → Nat × Nat} {c0 n0 fc fn gc gn : Nat → Int32} (h1 : td_gI w h lf tp rt bm q c0 n0 fc fn) (h2 : td_dI w h lf tp rt bm st q fc fn bm 0 gc gn) : td_gI w h lf tp rt bm st c0 n0 gc gn := fun i j hi hj => by
  obtain ⟨a1, a2⟩ := h1 i j hi hj
  obtain ⟨b1, b2⟩ := h2 i j hi hj
  refine ⟨fun ht => ?_, fun ht => ?_⟩
  · have := b1 ht
    rw [if_pos (by omega)] at this
    exact this
  · obtain ⟨p1, p2⟩ := a2 ht
    obtain ⟨q1, q2⟩ := b2 ht
    exact ⟨q1.trans p1, q2.trans p2⟩
/-- what holds of the tile kk -/
theorem td_tl1 {w h ta th kk lf tp rt bm : Nat} (hw1 : 8 ≤ w) (hh1 : 8 ≤ h) (hta : ta = (w + 7) / 8) (hth : th = (h + 7) / 8) (hk : kk < ta * th) (e1 : lf = kk % ta * 8) (e2 : tp = kk / ta * 8) (e3 : rt = (if kk % ta * 8 + 8 < w then kk % ta * 8 + 8 else w)) (e4 : bm = (if kk / ta * 8 + 8 < h then kk / ta * 8 + 8 else h)) :
    lf < rt ∧ rt ≤ w ∧ tp < bm ∧ bm ≤ h ∧ ∀ i j, i < w → j < h → (((lf ≤ i ∧ i < rt) ∧ tp ≤ j ∧ j < bm) ↔ j / 8 * ta + i / 8 = kk) := by
  have m1 : kk % ta < ta := Nat.mod_lt _ (by omega)
  have m2 : kk / ta < th := Nat.div_lt_of_lt_mul hk
  generalize hA : kk % ta = A at *
  generalize hB : kk / ta = B at *
  have c1 : lf < rt := by rw [e1, e3]; split <;> omega
  have c2 : rt ≤ w := by rw [e3]; split <;> omega
  have c3 : tp < bm := by rw [e2, e4]; split <;> omega
  have c4 : bm ≤ h := by rw [e4]; split <;> omega
  refine ⟨c1, c2, c3, c4, fun i j hi hj => ?_⟩
  rw [td_tile (ta := ta) (show i / 8 < ta by omega), hA, hB]
  constructor
  · intro z
    rw [e1, e2, e3, e4] at z
    constructor
    · split at z <;> split at z <;> omega
    · split at z <;> split at z <;> omega
  · rintro ⟨z1, z2⟩
    rw [e1, e2, e3, e4]
    split <;> split <;> omega
theorem td_idx {k : Int32} {nd : Nat} (h1 : ¬ k < 0) (h2 : ¬ nI nd ≤ k) (hn : nd < 2 ^ 31) : ∃ kk : Nat, kk < nd ∧ k = nI kk := by
  rcases pk_ix k hn with h | h | h
  · exact absurd h h1
  · exact absurd h h2
  · exact h
abbrev td_cok (k x y rr lt : Int32) : Prop := (0 ≤ k ∧ k ≤ 2) ∧ (-4096 ≤ x ∧ x ≤ 4096) ∧ (-4096 ≤ y ∧ y ≤ 4096) ∧ (1 ≤ rr ∧ rr ≤ 1048576) ∧ (0 ≤ lt ∧ lt ≤ 65536)
def td_cnt (what a b c d e : Int32) : Int32 := if what = 0 then a else if what = 1 then b else if what = 2 then c else if what = 3 then d else if what = 4 then e else -1
