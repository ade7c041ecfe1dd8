theorem ps_sat (v : Int32) : f_X6_saturated v 200 = f_X5_saturate v := by
  refine pn_inj ?_
  have e1 : (f_X5_saturate v).toInt = max (-200) (min 200 v.toInt) := by
    unfold f_X5_saturate
    rw [pv_mx, pv_mn]
    rfl
  rw [e1]
  unfold f_X6_saturated
  by_cases h1 : v ≤ 200
  · rw [if_pos h1]
    rw [Int32.le_iff_toInt_le, show (200 : Int32).toInt = 200 from rfl] at h1
    by_cases h2 : -200 ≤ v
    · rw [if_pos h2]
      rw [Int32.le_iff_toInt_le, show (-200 : Int32).toInt = -200 from rfl] at h2
      omega
    · rw [if_neg h2]
      rw [Int32.le_iff_toInt_le, show (-200 : Int32).toInt = -200 from rfl] at h2
      rw [show (-200 : Int32).toInt = -200 from rfl]
      omega
  · rw [if_neg h1]
    rw [Int32.le_iff_toInt_le, show (200 : Int32).toInt = 200 from rfl] at h1
    rw [show (200 : Int32).toInt = 200 from rfl]
    omega
theorem ps_sat0 (v : Int32) : f_X6_saturated v 0 = 0 := by
  unfold f_X6_saturated
  by_cases h1 : v ≤ 0
  · rw [if_pos h1]
    by_cases h2 : -0 ≤ v
    · rw [if_pos h2]
      rw [Int32.le_iff_toInt_le, Int32.toInt_zero] at h1
      rw [Int32.le_iff_toInt_le, show (-0 : Int32).toInt = 0 from rfl] at h2
      exact pn_inj (by rw [Int32.toInt_zero]; omega)
    · rw [if_neg h2]
      rfl
  · rw [if_neg h1]
theorem pu_l (f : Nat → Int32) (a b c d : Int32) : (upd (upd (upd (upd f (0 : Int32).toNatClampNeg a) (1 : Int32).toNatClampNeg b) (2 : Int32).toNatClampNeg c) (2 : Int32).toNatClampNeg d) 0 = a ∧ (upd (upd (upd (upd f (0 : Int32).toNatClampNeg a) (1 : Int32).toNatClampNeg b) (2 : Int32).toNatClampNeg c) (2 : Int32).toNatClampNeg d) 1 = b ∧ (upd (upd (upd (upd f (0 : Int32).toNatClampNeg a) (1 : Int32).toNatClampNeg b) (2 : Int32).toNatClampNeg c) (2 : Int32).toNatClampNeg d) 2 = d := ⟨rfl, rfl, rfl⟩
theorem pu_i (f : Nat → Int32) (a b c : Int32) : (upd (upd (upd f (0 : Int32).toNatClampNeg a) (1 : Int32).toNatClampNeg b) (2 : Int32).toNatClampNeg c) (2 : Int32).toNatClampNeg = c := rfl
theorem ps_ar {f g : Nat → Int32} (h0 : g 0 = f 0) (h1 : g 1 = f 1) (h2 : g 2 = f 2) : rv_ar f g := by
  intro j hj
  have hq : j = 0 ∨ j = 1 ∨ j = 2 := by omega
  rcases hq with rfl | rfl | rfl
  · exact h0
  · exact h1
  · exact h2
theorem ps_eq {f g : Nat → Int32} {a b c d : Int32} : rv_ar (upd (upd (upd f (0 : Int32).toNatClampNeg a) (1 : Int32).toNatClampNeg b) (2 : Int32).toNatClampNeg d) (upd (upd (upd (upd g (0 : Int32).toNatClampNeg a) (1 : Int32).toNatClampNeg b) (2 : Int32).toNatClampNeg c) (2 : Int32).toNatClampNeg d) := ps_ar rfl rfl rfl
/-- the demand by the mode, on both sides, before the guard -/
theorem ps_steer0 {kg kc ke ku kn kq kr lo si ti lm lf kf kh bn mn he ce : Int32} {fmr fi fpl fp fwi fd : Nat → Int32} (hmi : rv_mi mn he mn he fmr fi) (hm : rv_mo lm lf lm lf bn mn) (hp : rv_ar fpl fp) (hlo : lo = 0) :
    rv_ar (f_X5_guide ce he lo si ti mn fmr lm lf fpl fwi) (f_X6_steer kg kc ke mn he ku kn kq kr lo si ti lm kf kh fi fp fd) := by
  have p0 : fp (0 : Int32).toNatClampNeg = fpl (0 : Int32).toNatClampNeg := hp 0 (by omega)
  have p1 : fp (1 : Int32).toNatClampNeg = fpl (1 : Int32).toNatClampNeg := hp 1 (by omega)
  have p2 : fp (2 : Int32).toNatClampNeg = fpl (2 : Int32).toNatClampNeg := hp 2 (by omega)
  unfold f_X5_guide f_X6_steer
  rw [show (if lo ≤ 0 then (200 : Int32) else 0) = 200 by rw [hlo]; decide]
  by_cases c1 : lm = 1
  · rw [if_pos c1, if_neg (show ¬ lm = 2 by rw [c1]; decide), if_neg (show ¬ lm = 4 by rw [c1]; decide), if_neg (show ¬ lm = 5 by rw [c1]; decide), if_pos c1, if_pos hlo]
    unfold f_X5_setWish
    exact ps_eq
  · rw [if_neg c1]
    by_cases c2 : lm = 2
    · rw [if_pos c2, if_pos c2]
      have m2 : 1 ≤ mn.toInt := hm.2.2.2.2.2.1 c2
      have r0 := pt_read hmi m2 (a := 0) (Or.inl rfl)
      have r1 := pt_read hmi m2 (a := 1) (Or.inr (Or.inl rfl))
      have r2 := pt_read hmi m2 (a := 2) (Or.inr (Or.inr rfl))
      unfold f_X5_wishForItem
      rw [pu_i, p0, p1, p2, ps_sat, ps_sat, ps_sat, r0, r1, r2]
      exact ps_eq
    · rw [if_neg c2, if_neg c2]
      by_cases c3 : lm = 4
      · rw [if_pos c3, if_pos c3, pu_i, p0, p1, ps_sat, ps_sat]
        unfold f_X5_setWish
        exact ps_eq
      · rw [if_neg c3, if_neg c3]
        by_cases c4 : lm = 5
        · rw [if_pos c4, if_pos c4]
          unfold f_X5_setWish
          exact ps_eq
        · rw [if_neg c4, if_neg c4, if_neg c1, pu_i]
          unfold f_X5_setWish
          exact ps_eq
theorem ps_steer1 {kg kc ke ku kn kq kr lo si ti lm lf kf kh mn he ce : Int32} {fmr fi fpl fp fwi fd : Nat → Int32} (hlo : ¬ lo ≤ 0) :
    rv_ar (f_X5_flyBlind ce he lo si ti lm lf (f_X5_guide ce he lo si ti mn fmr lm lf fpl fwi)) (f_X6_steer kg kc ke mn he ku kn kq kr lo si ti lm kf kh fi fp fd) := by
  unfold f_X5_flyBlind f_X6_steer
  rw [if_neg hlo, ps_sat0, ps_sat0, ps_sat0, ps_sat0, ps_sat0]
  have hz : ¬ lo = 0 := fun z => hlo (by rw [z]; decide)
  by_cases c4 : lm = 5
  · rw [if_pos c4, if_neg (show ¬ lm = 2 by rw [c4]; decide), if_neg (show ¬ lm = 4 by rw [c4]; decide), if_pos c4]
    unfold f_X5_guide
    rw [if_neg (show ¬ lm = 1 by rw [c4]; decide), if_neg (show ¬ lm = 2 by rw [c4]; decide), if_neg (show ¬ lm = 4 by rw [c4]; decide), if_pos c4]
    exact ps_ar rfl rfl rfl
  · rw [if_neg c4, if_neg c4]
    by_cases c2 : lm = 2
    · rw [if_pos c2]
      exact ps_ar rfl rfl rfl
    · rw [if_neg c2]
      by_cases c3 : lm = 4
      · rw [if_pos c3]
        exact ps_ar rfl rfl rfl
      · rw [if_neg c3]
        by_cases c1 : lm = 1
        · rw [if_pos c1, if_neg hz]
          exact ps_ar rfl rfl rfl
        · rw [if_neg c1]
          exact ps_ar rfl rfl rfl
theorem ps_top {ce he lo si ti : Int32} {fpl fp fwi fd : Nat → Int32} (hw : rv_ar fwi fd) (hp : rv_ar fpl fp) (d0 d1 : Int32) :
    rv_ar (f_X5_guardTop ce he lo si ti fpl (f_X5_setWish ce he lo si ti fwi d0 d1 (fwi (2 : Int32).toNatClampNeg))) (if ((upd (upd fd (0 : Int32).toNatClampNeg d0) (1 : Int32).toNatClampNeg d1) (2 : Int32).toNatClampNeg) ≤ ((ce - 200) - (fp (2 : Int32).toNatClampNeg)) then (upd (upd (upd fd (0 : Int32).toNatClampNeg d0) (1 : Int32).toNatClampNeg d1) (2 : Int32).toNatClampNeg ((upd (upd fd (0 : Int32).toNatClampNeg d0) (1 : Int32).toNatClampNeg d1) (2 : Int32).toNatClampNeg)) else (upd (upd (upd fd (0 : Int32).toNatClampNeg d0) (1 : Int32).toNatClampNeg d1) (2 : Int32).toNatClampNeg (f_X6_greater ((ce - 200) - (fp (2 : Int32).toNatClampNeg)) (-200)))) := by
  have p2 : fp (2 : Int32).toNatClampNeg = fpl (2 : Int32).toNatClampNeg := hp 2 (by omega)
  have w2 : fd 2 = fwi 2 := hw 2 (by omega)
  have e1 : (upd (upd fd (0 : Int32).toNatClampNeg d0) (1 : Int32).toNatClampNeg d1) (2 : Int32).toNatClampNeg = fwi (2 : Int32).toNatClampNeg := w2
  have e2 : (f_X5_setWish ce he lo si ti fwi d0 d1 (fwi (2 : Int32).toNatClampNeg)) (2 : Int32).toNatClampNeg = fwi (2 : Int32).toNatClampNeg := rfl
  unfold f_X5_guardTop
  rw [e1, e2, p2]
  by_cases c : fwi (2 : Int32).toNatClampNeg ≤ (ce - 200) - fpl (2 : Int32).toNatClampNeg
  · rw [if_pos c, if_pos c]
    exact ps_ar rfl rfl rfl
  · rw [if_neg c, if_neg c]
    refine ps_ar rfl rfl ?_
    show f_X6_greater ((ce - 200) - fpl (2 : Int32).toNatClampNeg) (-200) = (if ((ce - 200) - fpl (2 : Int32).toNatClampNeg) < -200 then -200 else ((ce - 200) - fpl (2 : Int32).toNatClampNeg))
    refine pn_inj ?_
    rw [pv_gr, pv_mx]
theorem pu1 (f : Nat → Int32) (x : Int32) : (upd f (0 : Int32).toNatClampNeg x) (1 : Int32).toNatClampNeg = f (1 : Int32).toNatClampNeg := rfl
theorem ps_guard {kg ki kw ku kn kq kr kl kz kt km kf kh bn ce he lo si ti : Int32} {fbx fby fx fy fpl fp fwi fd : Nat → Int32} (hfe : rv_fe bn bn fbx fby fx fy) (h3 : 3 ≤ bn.toInt) (hp : rv_ar fpl fp) (hw : rv_ar fwi fd) :
    rv_ar (f_X5_guardTop ce he lo si ti fpl (f_X5_guardSides ce he lo si ti bn fbx fby fpl fwi)) (f_X6_guard kg bn ce ki kw ku kn kq kr kl kz kt km kf kh fx fy fp fd) := by
  have p0 : fp (0 : Int32).toNatClampNeg = fpl (0 : Int32).toNatClampNeg := hp 0 (by omega)
  have p1 : fp (1 : Int32).toNatClampNeg = fpl (1 : Int32).toNatClampNeg := hp 1 (by omega)
  have w0 : fd (0 : Int32).toNatClampNeg = fwi (0 : Int32).toNatClampNeg := hw 0 (by omega)
  have w1 : fd (1 : Int32).toNatClampNeg = fwi (1 : Int32).toNatClampNeg := hw 1 (by omega)
  unfold f_X5_guardSides f_X6_guard
  rw [p0, p1, w0, w1, pg_safe hfe h3, pg_safe hfe h3, pg_safe hfe h3, pg_safe hfe h3, pg_safe hfe h3]
  by_cases c : f_X0_leaveClear bn fbx fby (fpl (0 : Int32).toNatClampNeg) (fpl (1 : Int32).toNatClampNeg) 200 = 0
  · rw [if_pos c, if_pos c, ps_sat, ps_sat]
    exact ps_top hw hp _ _
  · rw [if_neg c, if_neg c]
    by_cases c4 : f_X0_leaveClear bn fbx fby (fpl (0 : Int32).toNatClampNeg + (fwi (0 : Int32).toNatClampNeg * 4) / 4) (fpl (1 : Int32).toNatClampNeg + (fwi (1 : Int32).toNatClampNeg * 4) / 4) 200 = 0
    · rw [if_pos c4, if_pos c4]
      by_cases c3 : f_X0_leaveClear bn fbx fby (fpl (0 : Int32).toNatClampNeg + (fwi (0 : Int32).toNatClampNeg * 3) / 4) (fpl (1 : Int32).toNatClampNeg + (fwi (1 : Int32).toNatClampNeg * 3) / 4) 200 = 0
      · rw [if_pos c3, if_pos c3]
        by_cases c2 : f_X0_leaveClear bn fbx fby (fpl (0 : Int32).toNatClampNeg + (fwi (0 : Int32).toNatClampNeg * 2) / 4) (fpl (1 : Int32).toNatClampNeg + (fwi (1 : Int32).toNatClampNeg * 2) / 4) 200 = 0
        · rw [if_pos c2, if_pos c2]
          by_cases c1 : f_X0_leaveClear bn fbx fby (fpl (0 : Int32).toNatClampNeg + (fwi (0 : Int32).toNatClampNeg * 1) / 4) (fpl (1 : Int32).toNatClampNeg + (fwi (1 : Int32).toNatClampNeg * 1) / 4) 200 = 0
          · rw [if_pos c1, if_pos c1]
            have z : ∀ a : Int32, (a * 0) / 4 = 0 := fun a => by rw [Int32.mul_zero]; decide
            have c0 : ¬ f_X0_leaveClear bn fbx fby (fpl (0 : Int32).toNatClampNeg + (fwi (0 : Int32).toNatClampNeg * 0) / 4) (fpl (1 : Int32).toNatClampNeg + (fwi (1 : Int32).toNatClampNeg * 0) / 4) 200 = 0 := by
              rw [z, z, Int32.add_zero, Int32.add_zero]
              exact c
            rw [if_neg c0, pu1, w1]
            exact ps_top hw hp _ _
          · rw [if_neg c1, if_neg c1, pu1, w1]
            exact ps_top hw hp _ _
        · rw [if_neg c2, if_neg c2, pu1, w1]
          exact ps_top hw hp _ _
      · rw [if_neg c3, if_neg c3, pu1, w1]
        exact ps_top hw hp _ _
    · rw [if_neg c4, if_neg c4, pu1, w1]
      exact ps_top hw hp _ _
