/-! the link, the failsafes, the moves -/
theorem pt_link {uw us ug up un ku kn kq kr kg kc ke ki kw kl kz kt km kf kh : Int32} {fur fi : Nat → Int32} (h : rv_ul uw us ug up un ku kn kq kr fur fi) :
    ∃ uw' ug' up' ku' kq' kr' : Int32, f_X4_growOlder uw us ug up = (uw', ug', up') ∧ f_X6_link kg kc ke ki kw ku kn kq kr kl kz kt km kf kh = (ku', kq', kr', kt + 1) ∧ rv_ul uw' us ug' up' un ku' kn kq' kr' fur fi := by
  have h0 := h
  obtain ⟨u0, u1⟩ := h
  unfold f_X4_growOlder f_X6_link
  rcases u1 with ⟨b1, b2⟩ | ⟨b1, b2, b3, b4, b5, b6, b7, b8, b9, b10, b11⟩
  · rw [if_pos b1, if_pos (show ku ≤ 0 by rw [b2]; decide)]
    exact ⟨uw, ug, up, ku, kq, kr, rfl, rfl, h0⟩
  · subst b2
    subst b4
    subst b5
    have n0 : ¬ ku ≤ 0 := by
      rw [Int32.le_iff_toInt_le, Int32.toInt_zero]
      omega
    obtain ⟨g1, g2⟩ := b9
    obtain ⟨p1, p2⟩ := b10
    have e1 : (kq + 1).toInt = kq.toInt + 1 := kk_add (by rw [show (1 : Int32).toInt = 1 from rfl]; omega) (by rw [show (1 : Int32).toInt = 1 from rfl]; omega)
    have e2 : (kr + 1).toInt = kr.toInt + 1 := kk_add (by rw [show (1 : Int32).toInt = 1 from rfl]; omega) (by rw [show (1 : Int32).toInt = 1 from rfl]; omega)
    rw [if_neg (show ¬ uw = 0 by rw [b1]; decide), if_neg n0]
    by_cases c1 : kq + 1 < 10
    · have c2 : ¬ kq + 1 = 10 := by
        rw [Int32.lt_iff_toInt_lt, show (10 : Int32).toInt = 10 from rfl] at c1
        exact pn_ne (n := 10) (by omega) 10 rfl
      rw [if_pos c1, if_neg c2]
      rw [Int32.lt_iff_toInt_lt, show (10 : Int32).toInt = 10 from rfl] at c1
      exact ⟨uw, kq + 1, kr, ku, kq + 1, kr, rfl, rfl, u0, Or.inr ⟨b1, rfl, b3, rfl, rfl, b6, b7, b8, ⟨by omega, by omega⟩, ⟨p1, p2⟩, b11⟩⟩
    · have c2 : kq + 1 = 10 := by
        rw [Int32.lt_iff_toInt_lt, show (10 : Int32).toInt = 10 from rfl] at c1
        exact pn_inj (by rw [show (10 : Int32).toInt = 10 from rfl]; omega)
      rw [if_neg c1, if_pos c2]
      by_cases c3 : (3 : Int32) ≤ kr + 1
      · have c4 : kr + 1 = 3 := by
          rw [Int32.le_iff_toInt_le, show (3 : Int32).toInt = 3 from rfl] at c3
          exact pn_inj (by rw [show (3 : Int32).toInt = 3 from rfl]; omega)
        rw [if_pos c3, if_pos c4]
        exact ⟨0, 0, kr + 1, 0, 0, kr + 1, rfl, rfl, u0, Or.inl ⟨rfl, rfl⟩⟩
      · have c4 : ¬ kr + 1 = 3 := by
          rw [Int32.le_iff_toInt_le, show (3 : Int32).toInt = 3 from rfl] at c3
          exact pn_ne (n := 3) (by omega) 3 rfl
        rw [if_neg c3, if_neg c4]
        rw [Int32.le_iff_toInt_le, show (3 : Int32).toInt = 3 from rfl] at c3
        exact ⟨1, 0, kr + 1, ku, 0, kr + 1, rfl, rfl, u0, Or.inr ⟨rfl, rfl, b3, rfl, rfl, b6, b7, b8, ⟨by decide, by decide⟩, ⟨by omega, by omega⟩, b11⟩⟩
theorem pt_fail {kg kc ke ki kw ku kn kq kr lo si ti lm lf kh bn mn ce he bt : Int32} {flc fc : Nat → Int32} (h : rv_ch kh flc fc) (hm : rv_mo lm lf lm lf bn mn) (h0 : ¬ lm = 0) :
    ∃ (F' C' : Nat → Int32) (m' f' h' : Int32), f_X5_applyFailsafes ce he lo si ti lm lf flc bt = (F', m', f') ∧ f_X6_failsafe kg kc ke ki kw ku kn kq kr lo si ti lm lf kh fc bt = (m', f', h', C') ∧ rv_ch h' F' C' ∧ rv_mo m' f' m' f' bn mn ∧ ¬ m' = 0 := by
  have hb : 3 ≤ bn.toInt := hm.2.2.2.2.1.resolve_left h0
  obtain ⟨F5, C5, f5, h5, a1, a2, a3, a4⟩ := pm_go (kg := kg) (kc := kc) (ke := ke) (ki := ki) (kw := kw) (ku := ku) (kn := kn) (kq := kq) (kr := kr) (kl := lo) (kz := si) (ti := ti) (md := 5) h hm ⟨by decide, by decide⟩ (Or.inr hb) (fun z => absurd z (by decide))
  obtain ⟨F4, C4, f4, h4, b1, b2, b3, b4⟩ := pm_go (kg := kg) (kc := kc) (ke := ke) (ki := ki) (kw := kw) (ku := ku) (kn := kn) (kq := kq) (kr := kr) (kl := lo) (kz := si) (ti := ti) (md := 4) h hm ⟨by decide, by decide⟩ (Or.inr hb) (fun z => absurd z (by decide))
  have fl : f_X2_forceLand lm lf flc ti = (F5, 5, 1) := by
    unfold f_X2_forceLand
    rw [a1]
  have m5 : rv_mo 5 1 5 1 bn mn := ⟨rfl, rfl, Or.inr rfl, a4.2.2.2.1, Or.inr hb, fun z => absurd z (by decide), fun _ => rfl⟩
  unfold f_X5_applyFailsafes f_X6_failsafe
  rw [fl, a2, b1, b2]
  by_cases c1 : bt < 10
  · rw [if_pos c1, if_pos c1]
    exact ⟨F5, C5, 5, 1, h5, rfl, rfl, a3, m5, by decide⟩
  · rw [if_neg c1, if_neg c1]
    by_cases c2 : lo < 5
    · rw [if_pos c2, if_pos c2]
      by_cases c3 : bt < 25
      · rw [if_pos c3, if_pos c3]
        by_cases c4 : lm = 4
        · rw [if_pos c4, if_pos c4]
          exact ⟨flc, fc, lm, lf, kh, rfl, rfl, h, hm, h0⟩
        · rw [if_neg c4, if_neg c4]
          by_cases c5 : lm = 5
          · rw [if_pos c5, if_pos c5]
            exact ⟨flc, fc, lm, lf, kh, rfl, rfl, h, hm, h0⟩
          · rw [if_neg c5, if_neg c5]
            exact ⟨F4, C4, 4, f4, h4, rfl, rfl, b3, b4, by decide⟩
      · rw [if_neg c3, if_neg c3]
        by_cases c6 : si < 20
        · rw [if_pos c6, if_pos c6]
          exact ⟨flc, fc, lm, lf, kh, rfl, rfl, h, hm, h0⟩
        · rw [if_neg c6, if_neg c6]
          by_cases c4 : lm = 4
          · rw [if_pos c4, if_pos c4]
            exact ⟨flc, fc, lm, lf, kh, rfl, rfl, h, hm, h0⟩
          · rw [if_neg c4, if_neg c4]
            by_cases c5 : lm = 5
            · rw [if_pos c5, if_pos c5]
              exact ⟨flc, fc, lm, lf, kh, rfl, rfl, h, hm, h0⟩
            · rw [if_neg c5, if_neg c5]
              exact ⟨F4, C4, 4, f4, h4, rfl, rfl, b3, b4, by decide⟩
    · rw [if_neg c2, if_neg c2]
      exact ⟨F5, C5, 5, 1, h5, rfl, rfl, a3, m5, by decide⟩
/-- the waypoint's item on both sides -/
theorem pt_read {mn he : Int32} {fmr fi : Nat → Int32} (h : rv_mi mn he mn he fmr fi) (h1 : 1 ≤ mn.toInt) {a : Int32} (ha : a = 0 ∨ a = 1 ∨ a = 2) : f_X1_read mn fmr he a = fi (3 * he + a).toNatClampNeg := by
  obtain ⟨-, -, ⟨m1, m2⟩, ⟨e1, e2⟩, hx, hq⟩ := h
  have hlt : he.toInt < mn.toInt := by rcases hx with z | z <;> omega
  have ed := kk_dec (a := mn) (b := 8) ⟨m1, m2⟩
  unfold f_X1_read
  have hw : ¬ f_X5_isWithin he 0 (mn - 1) = 0 := by
    rw [pw_iff, Int32.le_iff_toInt_le, Int32.le_iff_toInt_le, ed, Int32.toInt_zero]
    omega
  rw [if_neg hw]
  obtain ⟨k, hk, e⟩ : ∃ k : Nat, k ≤ 7 ∧ he = nI k := nI_of2 (M := 7) (n := 7) rfl (by rw [Int32.lt_iff_toInt_lt, Int32.toInt_zero]; omega) (by rw [Int32.le_iff_toInt_le]; exact e2)
  subst e
  rw [nI_toInt (by omega)] at hlt
  have hi : ((nI k * 3) + a).toNatClampNeg = (3 * nI k + a).toNatClampNeg ∧ ((3 * nI k + a).toNatClampNeg : Int) < 3 * (k : Int) + 3 := by
    have hh : k = 0 ∨ k = 1 ∨ k = 2 ∨ k = 3 ∨ k = 4 ∨ k = 5 ∨ k = 6 ∨ k = 7 := by omega
    rcases hh with rfl | rfl | rfl | rfl | rfl | rfl | rfl | rfl <;> rcases ha with rfl | rfl | rfl <;> decide
  rw [hi.1]
  exact (hq _ (by have := hi.2; omega)).symm
theorem pt_move {kg kc ke ku kn kq kr lo si ti lm lf kh bn mn he ce : Int32} {fmr fi flc fc fpl fp : Nat → Int32} (hmi : rv_mi mn he mn he fmr fi) (h : rv_ch kh flc fc) (hm : rv_mo lm lf lm lf bn mn) (hp : rv_ar fpl fp) (h0 : ¬ lm = 0) :
    ∃ (he' m' f' h' : Int32) (F' C' : Nat → Int32), f_X5_moveOn ce he lo si ti mn fmr lm lf flc fpl = (he', F', m', f') ∧ f_X6_advance kg kc ke mn he ku kn kq kr lo si ti lm lf kh fi fp fc = (he', m', f', h', C') ∧ rv_mi mn he' mn he' fmr fi ∧ rv_ch h' F' C' ∧ rv_mo m' f' m' f' bn mn := by
  have hb : 3 ≤ bn.toInt := hm.2.2.2.2.1.resolve_left h0
  have p0 : fp (0 : Int32).toNatClampNeg = fpl (0 : Int32).toNatClampNeg := hp 0 (by omega)
  have p1 : fp (1 : Int32).toNatClampNeg = fpl (1 : Int32).toNatClampNeg := hp 1 (by omega)
  have p2 : fp (2 : Int32).toNatClampNeg = fpl (2 : Int32).toNatClampNeg := hp 2 (by omega)
  have go := fun (md kw : Int32) (h5 : kk_L md 5) (h2 : md = 2 → 1 ≤ mn.toInt) => pm_go (kg := kg) (kc := kc) (ke := ke) (ki := mn) (kw := kw) (ku := ku) (kn := kn) (kq := kq) (kr := kr) (kl := lo) (kz := si) (ti := ti) (md := md) h hm h5 (Or.inr hb) h2
  unfold f_X5_moveOn f_X6_advance
  rw [p2]
  by_cases c1 : lm = 1
  · rw [if_pos c1, if_pos c1]
    by_cases c2 : fpl (2 : Int32).toNatClampNeg < 1000
    · rw [if_pos c2, if_pos c2]
      exact ⟨he, lm, lf, kh, flc, fc, rfl, rfl, hmi, h, hm⟩
    · rw [if_neg c2, if_neg c2]
      have m1 := hmi.2.2.1.1
      by_cases c3 : mn = 0
      · have e1 : (if f_X1_isEmpty mn = 0 then (2 : Int32) else 3) = 3 := by
          rw [c3]
          decide
        have e2 : (if mn ≤ 0 then (3 : Int32) else 2) = 3 := by
          rw [c3]
          decide
        rw [e1, e2]
        obtain ⟨F', C', f', h', q1, q2, q3, q4⟩ := go 3 he ⟨by decide, by decide⟩ (fun z => absurd z (by decide))
        rw [q1, q2]
        exact ⟨he, 3, f', h', F', C', rfl, rfl, hmi, q3, q4⟩
      · have m2 : 1 ≤ mn.toInt := by
          have u2 : mn.toInt ≠ 0 := fun z => c3 (pn_inj z)
          omega
        have e1 : (if f_X1_isEmpty mn = 0 then (2 : Int32) else 3) = 2 := by
          unfold f_X1_isEmpty
          rw [if_neg c3, if_pos rfl]
        have e2 : (if mn ≤ 0 then (3 : Int32) else 2) = 2 := by
          rw [if_neg (by rw [Int32.le_iff_toInt_le, Int32.toInt_zero]; omega)]
        rw [e1, e2]
        obtain ⟨F', C', f', h', q1, q2, q3, q4⟩ := go 2 he ⟨by decide, by decide⟩ (fun _ => m2)
        rw [q1, q2]
        exact ⟨he, 2, f', h', F', C', rfl, rfl, hmi, q3, q4⟩
  · rw [if_neg c1, if_neg c1]
    by_cases c2 : lm = 2
    · rw [if_pos c2, if_pos c2]
      have m2 : 1 ≤ mn.toInt := hm.2.2.2.2.2.1 c2
      have r0 : f_X1_read mn fmr he 0 = fi (3 * he).toNatClampNeg := by
        rw [pt_read hmi m2 (Or.inl rfl), Int32.add_zero]
      have r1 := pt_read hmi m2 (a := 1) (Or.inr (Or.inl rfl))
      have r2 := pt_read hmi m2 (a := 2) (Or.inr (Or.inr rfl))
      unfold f_X5_hasReachedItem f_X5_isNear f_X6_near
      rw [r0, r1, r2, p0, p1, p2, kk_wi6, kk_wi6, kk_wi6]
      by_cases d0 : f_X5_isWithin (fpl (0 : Int32).toNatClampNeg - fi (3 * he).toNatClampNeg) (-100) 100 = 0
      · rw [if_pos d0, if_pos d0, if_pos rfl]
        exact ⟨he, lm, lf, kh, flc, fc, rfl, rfl, hmi, h, hm⟩
      · rw [if_neg d0, if_neg d0]
        by_cases d1 : f_X5_isWithin (fpl (1 : Int32).toNatClampNeg - fi (3 * he + 1).toNatClampNeg) (-100) 100 = 0
        · rw [if_pos d1, if_pos d1, if_pos rfl]
          exact ⟨he, lm, lf, kh, flc, fc, rfl, rfl, hmi, h, hm⟩
        · rw [if_neg d1, if_neg d1]
          by_cases d2 : f_X5_isWithin (fpl (2 : Int32).toNatClampNeg - fi (3 * he + 2).toNatClampNeg) (-100) 100 = 0
          · rw [if_pos d2, if_pos d2, if_pos rfl]
            exact ⟨he, lm, lf, kh, flc, fc, rfl, rfl, hmi, h, hm⟩
          · rw [if_neg d2, if_neg d2, if_neg (show ¬ (1 : Int32) = 0 by decide)]
            unfold f_X5_passItem
            obtain ⟨z1, z2, ⟨z3, z4⟩, ⟨z5, z6⟩, z7, z8⟩ := hmi
            have hlt : he.toInt < mn.toInt := by rcases z7 with z | z <;> omega
            have ei : (he + 1).toInt = he.toInt + 1 := kk_add (by rw [show (1 : Int32).toInt = 1 from rfl]; omega) (by rw [show (1 : Int32).toInt = 1 from rfl]; omega)
            by_cases d3 : he + 1 = mn
            · have d4 : ¬ he + 1 < mn := by
                rw [d3]
                exact fun z => Int32.lt_irrefl z
              rw [if_pos d3, if_neg d4]
              obtain ⟨F', C', f', h', q1, q2, q3, q4⟩ := go 4 0 ⟨by decide, by decide⟩ (fun z => absurd z (by decide))
              rw [q1, q2]
              exact ⟨0, 4, f', h', F', C', rfl, rfl, ⟨rfl, rfl, ⟨z3, z4⟩, ⟨by decide, by decide⟩, Or.inr (by decide), z8⟩, q3, q4⟩
            · have d4 : he + 1 < mn := by
                have u : (he + 1).toInt ≠ mn.toInt := fun z => d3 (pn_inj z)
                rw [Int32.lt_iff_toInt_lt]
                omega
              rw [if_neg d3, if_pos d4]
              rw [Int32.lt_iff_toInt_lt] at d4
              exact ⟨he + 1, lm, lf, kh, flc, fc, rfl, rfl, ⟨rfl, rfl, ⟨z3, z4⟩, ⟨by omega, by omega⟩, Or.inl d4, z8⟩, h, hm⟩
    · rw [if_neg c2, if_neg c2]
      by_cases c3 : lm = 4
      · rw [if_pos c3, if_pos c3]
        unfold f_X5_isNear f_X6_near
        rw [p0, p1, kk_wi6, kk_wi6]
        by_cases d0 : f_X5_isWithin (fpl (0 : Int32).toNatClampNeg - 0) (-100) 100 = 0
        · rw [if_pos d0, if_pos d0]
          exact ⟨he, lm, lf, kh, flc, fc, rfl, rfl, hmi, h, hm⟩
        · rw [if_neg d0, if_neg d0]
          by_cases d1 : f_X5_isWithin (fpl (1 : Int32).toNatClampNeg - 0) (-100) 100 = 0
          · rw [if_pos d1, if_pos d1]
            exact ⟨he, lm, lf, kh, flc, fc, rfl, rfl, hmi, h, hm⟩
          · rw [if_neg d1, if_neg d1]
            obtain ⟨F', C', f', h', q1, q2, q3, q4⟩ := go 5 he ⟨by decide, by decide⟩ (fun z => absurd z (by decide))
            rw [q1, q2]
            exact ⟨he, 5, f', h', F', C', rfl, rfl, hmi, q3, q4⟩
      · rw [if_neg c3, if_neg c3]
        by_cases c4 : lm = 5
        · rw [if_pos c4, if_pos c4]
          by_cases d0 : 20 < fpl (2 : Int32).toNatClampNeg
          · rw [if_pos d0, if_pos d0]
            exact ⟨he, lm, lf, kh, flc, fc, rfl, rfl, hmi, h, hm⟩
          · rw [if_neg d0, if_neg d0]
            obtain ⟨F', C', f', h', q1, q2, q3, q4⟩ := go 0 he ⟨by decide, by decide⟩ (fun z => absurd z (by decide))
            rw [q1, q2]
            exact ⟨he, 0, f', h', F', C', rfl, rfl, hmi, q3, q4⟩
        · rw [if_neg c4, if_neg c4]
          exact ⟨he, lm, lf, kh, flc, fc, rfl, rfl, hmi, h, hm⟩
