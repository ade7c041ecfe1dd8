/-! votes -/
theorem pv_mx (x y : Int32) : (if x < y then y else x).toInt = max x.toInt y.toInt := by
  by_cases h : x < y
  · rw [if_pos h]
    rw [Int32.lt_iff_toInt_lt] at h
    omega
  · rw [if_neg h]
    rw [Int32.lt_iff_toInt_lt] at h
    omega
theorem pv_mn (x y : Int32) : (if y < x then y else x).toInt = min x.toInt y.toInt := by
  by_cases h : y < x
  · rw [if_pos h]
    rw [Int32.lt_iff_toInt_lt] at h
    omega
  · rw [if_neg h]
    rw [Int32.lt_iff_toInt_lt] at h
    omega
theorem pv_le (a b : Int32) : (f_X6_lesser a b).toInt = min a.toInt b.toInt := by
  unfold f_X6_lesser
  by_cases h : b ≤ a
  · rw [if_pos h]
    rw [Int32.le_iff_toInt_le] at h
    omega
  · rw [if_neg h]
    rw [Int32.le_iff_toInt_le] at h
    omega
theorem pv_gr (a b : Int32) : (f_X6_greater a b).toInt = max a.toInt b.toInt := by
  unfold f_X6_greater
  by_cases h : a ≤ b
  · rw [if_pos h]
    rw [Int32.le_iff_toInt_le] at h
    omega
  · rw [if_neg h]
    rw [Int32.le_iff_toInt_le] at h
    omega
theorem pv_mid (a b c : Int32) : (f_X3_middle a b c).toInt = max (min a.toInt b.toInt) (min (max a.toInt b.toInt) c.toInt) := by
  unfold f_X3_middle
  rw [pv_mx, pv_mn, pv_mn, pv_mx]
def pv_B (a : Int32) : Prop := -20000 ≤ a.toInt ∧ a.toInt ≤ 20000
theorem pv_three {a b c : Int32} (ha : pv_B a) (hb : pv_B b) (hc : pv_B c) : f_X3_middle a b c = (((((0 + a) + b) + c) - (f_X6_lesser (f_X6_lesser (f_X6_lesser 30000 a) b) c)) - (f_X6_greater (f_X6_greater (f_X6_greater (-30000) a) b) c)) := by
  obtain ⟨a1, a2⟩ := ha
  obtain ⟨b1, b2⟩ := hb
  obtain ⟨c1, c2⟩ := hc
  refine pn_inj ?_
  have l1 : (f_X6_lesser (f_X6_lesser (f_X6_lesser 30000 a) b) c).toInt = min (min (min 30000 a.toInt) b.toInt) c.toInt := by
    rw [pv_le, pv_le, pv_le]
    rfl
  have l2 : (f_X6_greater (f_X6_greater (f_X6_greater (-30000) a) b) c).toInt = max (max (max (-30000) a.toInt) b.toInt) c.toInt := by
    rw [pv_gr, pv_gr, pv_gr]
    rfl
  have s1 : (0 + a).toInt = a.toInt := by rw [Int32.zero_add]
  have s2 : ((0 + a) + b).toInt = a.toInt + b.toInt := by rw [kk_add (by omega) (by omega), s1]
  have s3 : (((0 + a) + b) + c).toInt = a.toInt + b.toInt + c.toInt := by rw [kk_add (by omega) (by omega), s2]
  have s4 : ((((0 + a) + b) + c) - (f_X6_lesser (f_X6_lesser (f_X6_lesser 30000 a) b) c)).toInt = a.toInt + b.toInt + c.toInt - min (min (min 30000 a.toInt) b.toInt) c.toInt := by
    rw [kk_sub (by omega) (by omega), s3, l1]
  rw [pv_mid, kk_sub (by omega) (by omega), s4, l2]
  omega
theorem pv_xor (x : Int32) : 0 ≤ x ^^^ 2 ↔ 0 ≤ x.toInt := by
  rw [Int32.le_iff_toInt_le, Int32.toInt_zero]
  have h1 : (x ^^^ 2).toBitVec.msb = decide ((x ^^^ 2).toInt < 0) := BitVec.msb_eq_toInt
  have h2 : x.toBitVec.msb = decide (x.toInt < 0) := BitVec.msb_eq_toInt
  have h3 : (x ^^^ 2).toBitVec.msb = x.toBitVec.msb := by
    rw [Int32.toBitVec_xor, BitVec.msb_xor, show (2 : Int32).toBitVec.msb = false from rfl, Bool.xor_false]
  rw [h1, h2] at h3
  have h4 := decide_eq_decide.mp h3
  omega
theorem pv_div {s : Int32} (h1 : -100000 ≤ s.toInt) (h2 : s.toInt ≤ 100000) : (0 ≤ s.toInt → (s / 2).toInt = s.toInt / 2) ∧ (s.toInt < 0 → (s / 2).toInt = -((-s.toInt) / 2)) := by
  have e : (s / 2).toInt = (s.toInt.tdiv 2).bmod (2 ^ 32) := Int32.toInt_div s 2
  refine ⟨fun h => ?_, fun h => ?_⟩
  · rw [e, Int.tdiv_eq_ediv_of_nonneg h]
    exact kk_bm (by omega) (by omega)
  · have e2 : s.toInt.tdiv 2 = -((-s.toInt) / 2) := by
      have e3 : s.toInt = -(-s.toInt) := by omega
      rw [e3, Int.neg_tdiv, Int.tdiv_eq_ediv_of_nonneg (by omega), Int.neg_neg]
    rw [e, e2]
    exact kk_bm (by omega) (by omega)
theorem pv_two {s : Int32} (h1 : -40000 ≤ s.toInt) (h2 : s.toInt ≤ 40000) : f_J9_floorDiv_7cf53 s 2 = ((s + 60000) / 2) - 30000 := by
  obtain ⟨d1, d2⟩ := pv_div (s := s) (by omega) (by omega)
  have e6 : (s + 60000).toInt = s.toInt + 60000 := by
    rw [kk_add (by rw [show (60000 : Int32).toInt = 60000 from rfl]; omega) (by rw [show (60000 : Int32).toInt = 60000 from rfl]; omega)]
    rfl
  have e7 : ((s + 60000) / 2).toInt = (s.toInt + 60000) / 2 := by
    rw [(pv_div (s := s + 60000) (by omega) (by omega)).1 (by omega), e6]
  have e8 : (((s + 60000) / 2) - 30000).toInt = (s.toInt + 60000) / 2 - 30000 := by
    rw [kk_sub (by rw [e7, show (30000 : Int32).toInt = 30000 from rfl]; omega) (by rw [e7, show (30000 : Int32).toInt = 30000 from rfl]; omega), e7]
    rfl
  refine pn_inj ?_
  rw [e8]
  unfold f_J9_floorDiv_7cf53
  by_cases hs : 0 ≤ s.toInt
  · rw [if_pos ((pv_xor s).mpr hs), d1 hs]
    omega
  · rw [if_neg (fun z => hs ((pv_xor s).mp z))]
    have hd := d2 (by omega)
    have e9 : ((s / 2) * 2).toInt = (s / 2).toInt * 2 := by
      rw [kk_mul (by rw [hd, show (2 : Int32).toInt = 2 from rfl]; omega) (by rw [hd, show (2 : Int32).toInt = 2 from rfl]; omega)]
      rfl
    by_cases hq : (s / 2) * 2 = s
    · rw [if_pos hq]
      have := congrArg Int32.toInt hq
      rw [e9] at this
      omega
    · rw [if_neg hq]
      have h3 : ¬ (s / 2).toInt * 2 = s.toInt := fun z => hq (pn_inj (by rw [e9]; exact z))
      rw [kk_sub (by rw [show (1 : Int32).toInt = 1 from rfl]; omega) (by rw [show (1 : Int32).toInt = 1 from rfl]; omega), show (1 : Int32).toInt = 1 from rfl]
      omega
theorem pv_sum {a b : Int32} (ha : pv_B a) (hb : pv_B b) : -40000 ≤ ((0 + a) + b).toInt ∧ ((0 + a) + b).toInt ≤ 40000 := by
  obtain ⟨a1, a2⟩ := ha
  obtain ⟨b1, b2⟩ := hb
  rw [Int32.zero_add, kk_add (by omega) (by omega)]
  omega
theorem pv_cnt {ff : Nat → Int32} : (2 : Int32) ≤ f_X3_countFresh ff ↔ (2 : Int32) ≤ (((if (ff (0 : Int32).toNatClampNeg) = 0 then 0 else 1) + (if (ff (1 : Int32).toNatClampNeg) = 0 then 0 else 1)) + (if (ff (2 : Int32).toNatClampNeg) = 0 then 0 else 1)) := by
  unfold f_X3_countFresh
  by_cases h0 : ff (0 : Int32).toNatClampNeg = 0
  · rw [if_pos h0, if_pos h0]
    by_cases h1 : ff (1 : Int32).toNatClampNeg = 0
    · rw [if_pos h1, if_pos h1]
      by_cases h2 : ff (2 : Int32).toNatClampNeg = 0
      · rw [if_pos h2]; decide
      · rw [if_neg h2]; decide
    · rw [if_neg h1, if_neg h1]
      by_cases h2 : ff (2 : Int32).toNatClampNeg = 0
      · rw [if_pos h2, if_pos h2]; decide
      · rw [if_neg h2, if_neg h2]; decide
  · rw [if_neg h0, if_neg h0]
    by_cases h1 : ff (1 : Int32).toNatClampNeg = 0
    · rw [if_pos h1, if_pos h1]
      by_cases h2 : ff (2 : Int32).toNatClampNeg = 0
      · rw [if_pos h2, if_pos h2]; decide
      · rw [if_neg h2, if_neg h2]; decide
    · rw [if_neg h1, if_neg h1]
      by_cases h2 : ff (2 : Int32).toNatClampNeg = 0
      · rw [if_pos h2, if_pos h2]; decide
      · rw [if_neg h2, if_neg h2]; decide
theorem pv_axis {kg kc ke ki kw ku kn kq kr kl kz kt km kf kh : Int32} {fsr fsf fs fh : Nat → Int32} (h : rv_se fsr fsf fs fh) (hc : (2 : Int32) ≤ f_X3_countFresh fsf) {axis : Int32} (hx : axis = 0 ∨ axis = 1 ∨ axis = 2) :
    f_X6_voted kg kc ke ki kw ku kn kq kr kl kz kt km kf kh fh fs axis = f_X3_vote fsr fsf axis := by
  obtain ⟨h1, h2⟩ := h
  have f0 : fh (0 : Int32).toNatClampNeg = fsf (0 : Int32).toNatClampNeg := (h1 0 (by omega)).1
  have f1 : fh (1 : Int32).toNatClampNeg = fsf (1 : Int32).toNatClampNeg := (h1 1 (by omega)).1
  have f2 : fh (2 : Int32).toNatClampNeg = fsf (2 : Int32).toNatClampNeg := (h1 2 (by omega)).1
  obtain ⟨i0, i1, i2, hi, j0, j1, j2, l0, l1, l2, n0, n1, n2⟩ : ∃ i0 i1 i2 : Nat, (i0 < 9 ∧ i1 < 9 ∧ i2 < 9) ∧ (3 * 0 + axis).toNatClampNeg = i0 ∧ (3 * 1 + axis).toNatClampNeg = i1 ∧ (3 * 2 + axis).toNatClampNeg = i2 ∧ (0 * 3 + axis).toNatClampNeg = i0 ∧ (1 * 3 + axis).toNatClampNeg = i1 ∧ (2 * 3 + axis).toNatClampNeg = i2 ∧ axis.toNatClampNeg = i0 ∧ (3 + axis).toNatClampNeg = i1 ∧ (6 + axis).toNatClampNeg = i2 := by
    rcases hx with rfl | rfl | rfl
    · exact ⟨0, 3, 6, by decide, by decide, by decide, by decide, by decide, by decide, by decide, by decide, by decide, by decide⟩
    · exact ⟨1, 4, 7, by decide, by decide, by decide, by decide, by decide, by decide, by decide, by decide, by decide, by decide⟩
    · exact ⟨2, 5, 8, by decide, by decide, by decide, by decide, by decide, by decide, by decide, by decide, by decide, by decide⟩
  have B0 : pv_B (fsr i0) := (h2 i0 hi.1).2
  have B1 : pv_B (fsr i1) := (h2 i1 hi.2.1).2
  have B2 : pv_B (fsr i2) := (h2 i2 hi.2.2).2
  unfold f_X6_voted f_X3_vote
  rw [f0, f1, f2, j0, j1, j2, l0, l1, l2, n0, n1, n2, (h2 i0 hi.1).1, (h2 i1 hi.2.1).1, (h2 i2 hi.2.2).1]
  unfold f_X3_countFresh at hc ⊢
  by_cases g0 : fsf (0 : Int32).toNatClampNeg = 0
  · rw [if_pos g0] at hc
    simp only [if_pos g0]
    by_cases g1 : fsf (1 : Int32).toNatClampNeg = 0
    · rw [if_pos g1] at hc
      by_cases g2 : fsf (2 : Int32).toNatClampNeg = 0
      · rw [if_pos g2] at hc
        exact absurd hc (by decide)
      · rw [if_neg g2] at hc
        exact absurd hc (by decide)
    · rw [if_neg g1] at hc
      simp only [if_neg g1]
      by_cases g2 : fsf (2 : Int32).toNatClampNeg = 0
      · rw [if_pos g2] at hc
        exact absurd hc (by decide)
      · simp only [if_neg g2]
        rw [if_neg (show ¬ (2 : Int32) = 3 by decide)]
        exact (pv_two (pv_sum B1 B2).1 (pv_sum B1 B2).2).symm
  · rw [if_neg g0] at hc
    simp only [if_neg g0]
    by_cases g1 : fsf (1 : Int32).toNatClampNeg = 0
    · rw [if_pos g1] at hc
      simp only [if_pos g1]
      by_cases g2 : fsf (2 : Int32).toNatClampNeg = 0
      · rw [if_pos g2] at hc
        exact absurd hc (by decide)
      · simp only [if_neg g2]
        rw [if_neg (show ¬ (2 : Int32) = 3 by decide)]
        exact (pv_two (pv_sum B0 B2).1 (pv_sum B0 B2).2).symm
    · rw [if_neg g1] at hc
      simp only [if_neg g1]
      by_cases g2 : fsf (2 : Int32).toNatClampNeg = 0
      · simp only [if_pos g2]
        rw [if_neg (show ¬ (2 : Int32) = 3 by decide)]
        exact (pv_two (pv_sum B0 B1).1 (pv_sum B0 B1).2).symm
      · simp only [if_neg g2]
        rw [if_pos trivial]
        exact (pv_three B0 B1 B2).symm
theorem pu30 (f : Nat → Int32) (a b c : Int32) : (upd (upd (upd f (0 : Int32).toNatClampNeg a) (1 : Int32).toNatClampNeg b) (2 : Int32).toNatClampNeg c) 0 = a := rfl
theorem pu31 (f : Nat → Int32) (a b c : Int32) : (upd (upd (upd f (0 : Int32).toNatClampNeg a) (1 : Int32).toNatClampNeg b) (2 : Int32).toNatClampNeg c) 1 = b := rfl
theorem pu32 (f : Nat → Int32) (a b c : Int32) : (upd (upd (upd f (0 : Int32).toNatClampNeg a) (1 : Int32).toNatClampNeg b) (2 : Int32).toNatClampNeg c) 2 = c := rfl
theorem pv_go {kg kc ke ki kw ku kn kq kr kz kt km kf kh ce he lo si ti : Int32} {fsr fsf fs fh fpl fp : Nat → Int32} (h : rv_se fsr fsf fs fh) (hp : rv_ar fpl fp) (h0 : 0 ≤ lo.toInt) {N : Int} (hN : lo.toInt ≤ N) (hN2 : N ≤ 100000) :
    ∃ (P' P6 S' H' : Nat → Int32) (L' : Int32), f_X5_locate ce he lo si ti fsr fsf fpl = (P', L', S') ∧ f_X6_vote kg kc ke ki kw ku kn kq kr lo kz kt km kf kh fh fs fp = (H', P6, L') ∧ rv_se fsr S' fs H' ∧ rv_ar P' P6 ∧ 0 ≤ L'.toInt ∧ L'.toInt ≤ N + 1 := by
  have hfor : rv_se fsr (f_X3_forget fsf) fs (upd (upd (upd fh (0 : Int32).toNatClampNeg (vp_nar .boolean 0)) (1 : Int32).toNatClampNeg (vp_nar .boolean 0)) (2 : Int32).toNatClampNeg (vp_nar .boolean 0)) := by
    refine ⟨fun j hj => ?_, h.2⟩
    unfold f_X3_forget
    have hh : j = 0 ∨ j = 1 ∨ j = 2 := by omega
    rcases hh with rfl | rfl | rfl
    · exact ⟨rfl, Or.inl rfl⟩
    · exact ⟨rfl, Or.inl rfl⟩
    · exact ⟨rfl, Or.inl rfl⟩
  have hh := h
  obtain ⟨h1, h2⟩ := hh
  have f0 : fh (0 : Int32).toNatClampNeg = fsf (0 : Int32).toNatClampNeg := (h1 0 (by omega)).1
  have f1 : fh (1 : Int32).toNatClampNeg = fsf (1 : Int32).toNatClampNeg := (h1 1 (by omega)).1
  have f2 : fh (2 : Int32).toNatClampNeg = fsf (2 : Int32).toNatClampNeg := (h1 2 (by omega)).1
  unfold f_X5_locate f_X6_vote
  by_cases c : (2 : Int32) ≤ f_X3_countFresh fsf
  · have c2 := pv_cnt.mp c
    rw [← f0, ← f1, ← f2] at c2
    rw [if_pos c, if_pos c2]
    refine ⟨_, _, _, _, _, rfl, rfl, hfor, ?_, by decide, by rw [Int32.toInt_zero]; omega⟩
    intro j hj
    have hq : j = 0 ∨ j = 1 ∨ j = 2 := by omega
    rcases hq with rfl | rfl | rfl
    · rw [pu30, pu30]
      exact pv_axis h c (Or.inl rfl)
    · rw [pu31, pu31]
      exact pv_axis h c (Or.inr (Or.inl rfl))
    · rw [pu32, pu32]
      exact pv_axis h c (Or.inr (Or.inr rfl))
  · have c2 := fun z => c (pv_cnt.mpr z)
    rw [← f0, ← f1, ← f2] at c2
    rw [if_neg c, if_neg c2]
    have e1 : (lo + 1).toInt = lo.toInt + 1 := kk_add (by rw [show (1 : Int32).toInt = 1 from rfl]; omega) (by rw [show (1 : Int32).toInt = 1 from rfl]; omega)
    refine ⟨_, _, _, _, _, rfl, rfl, hfor, ?_, by omega, by omega⟩
    intro j hj
    have hq : j = 0 ∨ j = 1 ∨ j = 2 := by omega
    rcases hq with rfl | rfl | rfl
    · exact hp 0 (by omega)
    · exact hp 1 (by omega)
    · exact hp 2 (by omega)
