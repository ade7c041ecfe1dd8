theorem pn_cl {a : Int32} (h : 0 ≤ a.toInt) : (a.toNatClampNeg : Int) = a.toInt := Int.toNat_of_nonneg h
theorem pn_lt {a : Int32} {b : Int} {N : Nat} (h : kk_L a b) (hb : b < N) : a.toNatClampNeg < N := by
  have := pn_cl h.1
  have := h.2
  omega
theorem pn_inj {a b : Int32} (h : a.toInt = b.toInt) : a = b := Int32.toInt_inj.mp h
theorem pn_ne {a : Int32} {n : Int} (h : a.toInt ≠ n) (b : Int32) (hb : b.toInt = n) : ¬ a = b := fun e => h (by rw [e, hb])
theorem pw_iff (v lo hi : Int32) : f_X5_isWithin v lo hi = 0 ↔ ¬ (lo ≤ v ∧ v ≤ hi) := by
  unfold f_X5_isWithin
  constructor
  · intro h ⟨h1, h2⟩
    rw [if_neg (Int32.not_lt.mpr h1), if_neg (Int32.not_lt.mpr h2)] at h
    exact absurd h (by decide)
  · intro h
    by_cases h1 : v < lo
    · rw [if_pos h1]
    · rw [if_neg h1]
      by_cases h2 : hi < v
      · rw [if_pos h2]
      · exact absurd ⟨Int32.not_lt.mp h1, Int32.not_lt.mp h2⟩ h
theorem pw_map (x y : Int32) : f_X5_isOnMap x y = 0 ↔ (f_X6_within x (-10000) 10000 = 0 ∨ f_X6_within y (-10000) 10000 = 0) := by
  rw [kk_wi6, kk_wi6]
  unfold f_X5_isOnMap
  by_cases h1 : f_X5_isWithin x (-10000) 10000 = 0
  · rw [if_pos h1]; simp [h1]
  · rw [if_neg h1]
    by_cases h2 : f_X5_isWithin y (-10000) 10000 = 0
    · rw [if_pos h2]; simp [h2]
    · rw [if_neg h2]; simp [h1, h2]
theorem pw_reach (x y : Int32) : f_X5_isInSensorReach x y = 0 ↔ (f_X6_within x (-20000) 20000 = 0 ∨ f_X6_within y (-20000) 20000 = 0) := by
  rw [kk_wi6, kk_wi6]
  unfold f_X5_isInSensorReach
  by_cases h1 : f_X5_isWithin x (-20000) 20000 = 0
  · rw [if_pos h1]; simp [h1]
  · rw [if_neg h1]
    by_cases h2 : f_X5_isWithin y (-20000) 20000 = 0
    · rw [if_pos h2]; simp [h2]
    · rw [if_neg h2]; simp [h1, h2]
theorem pu_s (f : Nat → Int32) (k : Nat) (x : Int32) : upd f k x k = x := by simp [upd]
theorem pu_n {f : Nat → Int32} {k j : Nat} {x : Int32} (h : j ≠ k) : upd f k x j = f j := by simp [upd, h]
/-! corner -/
theorem e5_corner {ce he lo si ti gn : Int32} {fgx fgy : Nat → Int32} {x y : Int32} (hg : kk_L gn 8) : f_X5_corner ce he lo si ti gn fgx fgy x y = if gn = 8 ∨ f_X6_within x (-10000) 10000 = 0 ∨ f_X6_within y (-10000) 10000 = 0 then (0, fgx, fgy, gn) else (1, upd fgx gn.toNatClampNeg x, upd fgy gn.toNatClampNeg y, gn + 1) := by
  have hf : f_X0_isFull gn = 0 ↔ ¬ gn = 8 := by
    unfold f_X0_isFull
    obtain ⟨h1, h2⟩ := hg
    by_cases h : gn < 8
    · rw [if_pos h]
      rw [Int32.lt_iff_toInt_lt, show (8 : Int32).toInt = 8 from rfl] at h
      exact ⟨fun _ => pn_ne (n := 8) (by omega) 8 rfl, fun _ => rfl⟩
    · rw [if_neg h]
      rw [Int32.lt_iff_toInt_lt, show (8 : Int32).toInt = 8 from rfl] at h
      exact ⟨fun z => absurd z (by decide), fun z => absurd (pn_inj (by rw [show (8 : Int32).toInt = 8 from rfl]; omega)) z⟩
  unfold f_X5_corner
  by_cases h1 : gn = 8
  · rw [if_neg (fun z => (hf.mp z) h1), if_pos (Or.inl h1)]
  · rw [if_pos (hf.mpr h1)]
    by_cases h2 : f_X5_isOnMap x y = 0
    · rw [if_pos h2, if_pos (Or.inr ((pw_map x y).mp h2))]
    · rw [if_neg h2, if_neg (fun z => z.elim h1 (fun z => h2 ((pw_map x y).mpr z)))]
      unfold f_X0_add
      rw [if_pos (hf.mpr h1)]
theorem e6_corner {kg kc ke ki kw ku kn kq kr kl kz kt km kf kh : Int32} {fx fy : Nat → Int32} {x y : Int32} : f_X6_corner kg kc ke ki kw ku kn kq kr kl kz kt km kf kh fx fy x y = if kg = 8 ∨ f_X6_within x (-10000) 10000 = 0 ∨ f_X6_within y (-10000) 10000 = 0 then (0, fx, fy, kg) else (1, upd fx kg.toNatClampNeg x, upd fy kg.toNatClampNeg y, kg + 1) := by
  unfold f_X6_corner
  by_cases h1 : kg = 8
  · rw [if_pos h1, if_pos (Or.inl h1)]
  · rw [if_neg h1]
    by_cases h2 : f_X6_within x (-10000) 10000 = 0
    · rw [if_pos h2, if_pos (Or.inr (Or.inl h2))]
    · rw [if_neg h2]
      by_cases h3 : f_X6_within y (-10000) 10000 = 0
      · rw [if_pos h3, if_pos (Or.inr (Or.inr h3))]
      · rw [if_neg h3, if_neg (fun z => z.elim h1 (fun z => z.elim h2 h3))]
theorem pq_corner {gn bn : Int32} {fgx fgy fx fy fbx fby : Nat → Int32} {x y : Int32} (h1 : rv_gv gn gn fgx fgy fx fy) (h2 : rv_fe bn bn fbx fby fx fy) (hn : ¬ gn = 8) : rv_gv (gn + 1) (gn + 1) (upd fgx gn.toNatClampNeg x) (upd fgy gn.toNatClampNeg y) (upd fx gn.toNatClampNeg x) (upd fy gn.toNatClampNeg y) ∧ rv_fe bn bn fbx fby (upd fx gn.toNatClampNeg x) (upd fy gn.toNatClampNeg y) := by
  obtain ⟨-, ⟨a1, a2⟩, a3⟩ := h1
  obtain ⟨-, ⟨b1, b2⟩, b3, b4⟩ := h2
  have hn2 : gn.toInt ≠ 8 := fun z => hn (pn_inj z)
  have e1 : (gn + 1).toInt = gn.toInt + 1 := kk_add (by rw [show (1 : Int32).toInt = 1 from rfl]; omega) (by rw [show (1 : Int32).toInt = 1 from rfl]; omega)
  have e2 := pn_cl a1
  refine ⟨⟨rfl, ⟨by omega, by omega⟩, fun j hj => ?_⟩, ⟨rfl, ⟨b1, b2⟩, b3, fun j hj => ?_⟩⟩
  · by_cases hjk : j = gn.toNatClampNeg
    · subst hjk
      rw [pu_s, pu_s, pu_s, pu_s]
      exact ⟨rfl, rfl⟩
    · rw [pu_n hjk, pu_n hjk, pu_n hjk, pu_n hjk]
      exact a3 j (by omega)
  · rw [pu_n (by omega), pu_n (by omega)]
    exact b4 j hj
/-! sample -/
theorem pq_se {fsr fsf fs fh : Nat → Int32} (h : rv_se fsr fsf fs fh) {x y z : Int32} (hx : -20000 ≤ x.toInt ∧ x.toInt ≤ 20000) (hy : -20000 ≤ y.toInt ∧ y.toInt ≤ 20000) (hz : -20000 ≤ z.toInt ∧ z.toInt ≤ 20000) (i0 i1 i2 k : Nat) : rv_se (upd (upd (upd fsr i0 x) i1 y) i2 z) (upd fsf k 1) (upd (upd (upd fs i0 x) i1 y) i2 z) (upd fh k 1) := by
  obtain ⟨h1, h2⟩ := h
  refine ⟨fun j hj => ?_, fun j hj => ?_⟩
  · by_cases e : j = k
    · subst e
      rw [pu_s, pu_s]
      exact ⟨rfl, Or.inr rfl⟩
    · rw [pu_n e, pu_n e]
      exact h1 j hj
  · by_cases e2 : j = i2
    · subst e2
      rw [pu_s, pu_s]
      exact ⟨rfl, hz⟩
    · rw [pu_n e2, pu_n e2]
      by_cases e1 : j = i1
      · subst e1
        rw [pu_s, pu_s]
        exact ⟨rfl, hy⟩
      · rw [pu_n e1, pu_n e1]
        by_cases e0 : j = i0
        · subst e0
          rw [pu_s, pu_s]
          exact ⟨rfl, hx⟩
        · rw [pu_n e0, pu_n e0]
          exact h2 j hj
theorem pw_rng {v lo hi : Int32} (h : ¬ f_X6_within v lo hi = 0) : lo.toInt ≤ v.toInt ∧ v.toInt ≤ hi.toInt := by
  obtain ⟨h1, h2⟩ := kk_within h
  rw [Int32.le_iff_toInt_le] at h1 h2
  exact ⟨h1, h2⟩
theorem pn_3 {k : Int32} (h : kk_L k 2) : k = 0 ∨ k = 1 ∨ k = 2 := by
  obtain ⟨h1, h2⟩ := h
  by_cases e0 : k.toInt = 0
  · exact Or.inl (pn_inj e0)
  · by_cases e1 : k.toInt = 1
    · exact Or.inr (Or.inl (pn_inj e1))
    · exact Or.inr (Or.inr (pn_inj (show k.toInt = (2 : Int32).toInt by rw [show (2 : Int32).toInt = 2 from rfl]; omega)))
theorem pk_3 {k : Int32} (h : kk_L k 2) : ((k * 3) + 0).toNatClampNeg = (3 * k).toNatClampNeg ∧ ((k * 3) + 1).toNatClampNeg = ((3 * k) + 1).toNatClampNeg ∧ ((k * 3) + 2).toNatClampNeg = ((3 * k) + 2).toNatClampNeg := by
  rcases pn_3 h with rfl | rfl | rfl <;> decide
/-! the mode's changes -/
def pm_sh (f : Nat → Int32) (n : Nat) : Nat → Int32 := fun j => if 1 ≤ j ∧ j ≤ n then f (j - 1) else f j
theorem pm_sh0 (f : Nat → Int32) : pm_sh f 0 = f := by
  funext j
  unfold pm_sh
  rw [if_neg (by omega)]
theorem pm_shs (f : Nat → Int32) (n : Nat) : pm_sh (upd f (n + 1) (f n)) n = pm_sh f (n + 1) := by
  funext j
  unfold pm_sh
  by_cases h1 : 1 ≤ j ∧ j ≤ n
  · rw [if_pos h1, if_pos (by omega), pu_n (by omega)]
  · rw [if_neg h1]
    by_cases h2 : j = n + 1
    · subst h2
      rw [if_pos (by omega), pu_s]
      rfl
    · rw [if_neg (by omega), pu_n h2]
theorem pm_ix {n : Nat} (hn : n ≤ 15) : ¬ nI (n + 1) ≤ 0 ∧ nI (n + 1) + (-1) = nI n ∧ (nI (n + 1)).toNatClampNeg = n + 1 ∧ (nI (n + 1) - 1).toNatClampNeg = n := by
  refine ⟨nI_nle (by omega) (by omega), pk_m1 n, nI_clamp (by omega), ?_⟩
  rw [nI_pred]
  exact nI_clamp (by omega)
theorem pm_enter_lp (cu lf : Int32) (fc : Nat → Int32) (md tk : Int32) : ∀ (n : Nat) (f : Nat → Int32) (fuel : Nat), n ≤ 15 → n < fuel → g_X2_enter_lp cu lf fc md tk fuel (nI n) f = (upd (pm_sh f n) 0 (8 * tk + md), md, 0) := by
  intro n
  induction n with
  | zero =>
    intro f fuel hn hf
    obtain ⟨fuel, rfl⟩ : ∃ k, fuel = k + 1 := ⟨fuel - 1, by omega⟩
    rw [g_X2_enter_lp, if_pos (by decide), pm_sh0]
    rfl
  | succ n ih =>
    intro f fuel hn hf
    obtain ⟨fuel, rfl⟩ : ∃ k, fuel = k + 1 := ⟨fuel - 1, by omega⟩
    obtain ⟨e1, e2, e3, e4⟩ := pm_ix (n := n) (by omega)
    rw [g_X2_enter_lp, if_neg e1, e2, e3, e4, ih _ fuel (by omega) (by omega), pm_shs]
theorem pm_become_lp (kg kc ke ki kw ku kn kq kr kl kz kt km kf kh : Int32) (fc : Nat → Int32) (md : Int32) : ∀ (n : Nat) (f : Nat → Int32) (fuel : Nat), n ≤ 15 → n < fuel → g_X6_become_lp kg kc ke ki kw ku kn kq kr kl kz kt km kf kh fc md fuel (nI n) f = (md, (if kf = 0 then 0 else if md = 5 then 1 else 0), (if 16 ≤ kh then 16 else kh + 1), upd (pm_sh f n) 0 (8 * kt + md)) := by
  intro n
  induction n with
  | zero =>
    intro f fuel hn hf
    obtain ⟨fuel, rfl⟩ : ∃ k, fuel = k + 1 := ⟨fuel - 1, by omega⟩
    rw [g_X6_become_lp, if_pos (by decide), pm_sh0]
    by_cases h1 : 16 ≤ kh
    · rw [if_pos h1, if_pos h1]
      by_cases h2 : kf = 0
      · rw [if_pos h2, if_pos h2]
        rfl
      · rw [if_neg h2, if_neg h2]
        by_cases h3 : md = 5
        · rw [if_pos h3, if_pos h3]
          rfl
        · rw [if_neg h3, if_neg h3]
          rfl
    · rw [if_neg h1, if_neg h1]
      by_cases h2 : kf = 0
      · rw [if_pos h2, if_pos h2]
        rfl
      · rw [if_neg h2, if_neg h2]
        by_cases h3 : md = 5
        · rw [if_pos h3, if_pos h3]
          rfl
        · rw [if_neg h3, if_neg h3]
          rfl
  | succ n ih =>
    intro f fuel hn hf
    obtain ⟨fuel, rfl⟩ : ∃ k, fuel = k + 1 := ⟨fuel - 1, by omega⟩
    obtain ⟨e1, e2, e3, e4⟩ := pm_ix (n := n) (by omega)
    rw [g_X6_become_lp, if_neg e1, e2, e3, e4, ih _ fuel (by omega) (by omega), pm_shs]
theorem pm_ch {kh : Int32} {flc fc : Nat → Int32} (h : rv_ch kh flc fc) (v : Int32) : rv_ch (if 16 ≤ kh then 16 else kh + 1) (upd (pm_sh flc 15) 0 v) (upd (pm_sh fc 15) 0 v) := by
  obtain ⟨⟨h1, h2⟩, h3⟩ := h
  have e0 : (16 ≤ kh) ↔ 16 ≤ kh.toInt := by rw [Int32.le_iff_toInt_le]; rfl
  have e1 : (kh + 1).toInt = kh.toInt + 1 := kk_add (by rw [show (1 : Int32).toInt = 1 from rfl]; omega) (by rw [show (1 : Int32).toInt = 1 from rfl]; omega)
  have e2 : (if 16 ≤ kh then 16 else kh + 1 : Int32).toInt = if 16 ≤ kh.toInt then 16 else kh.toInt + 1 := by
    by_cases hq : 16 ≤ kh
    · rw [if_pos hq, if_pos (e0.mp hq)]
      rfl
    · rw [if_neg hq, if_neg (fun z => hq (e0.mpr z)), e1]
  unfold rv_ch kk_L
  rw [e2]
  refine ⟨⟨by split <;> omega, by split <;> omega⟩, fun j hj => ?_⟩
  by_cases hj0 : j = 0
  · subst hj0
    rw [pu_s, pu_s, if_pos (by split <;> omega)]
  · rw [pu_n hj0, pu_n hj0]
    have es : ∀ f : Nat → Int32, pm_sh f 15 j = f (j - 1) := fun f => by
      unfold pm_sh
      rw [if_pos (by omega)]
    rw [es, es, h3 (j - 1) (by omega)]
    by_cases hq : ((j - 1 : Nat) : Int) < kh.toInt
    · rw [if_pos hq, if_pos (by split <;> omega)]
    · rw [if_neg hq, if_neg (by split <;> omega)]
/-- a change of the mode on both sides -/
theorem pm_go {kg kc ke ki kw ku kn kq kr kl kz lm lf kh ti md bn mn : Int32} {flc fc : Nat → Int32} (h : rv_ch kh flc fc) (hm : rv_mo lm lf lm lf bn mn) (hmd : kk_L md 5) (hb : md = 0 ∨ 3 ≤ bn.toInt) (h2 : md = 2 → 1 ≤ mn.toInt) :
    ∃ (F' C' : Nat → Int32) (f' h' : Int32), f_X2_enter lm lf flc md ti = (F', md, f') ∧ f_X6_become kg kc ke ki kw ku kn kq kr kl kz ti lm lf kh fc md = (md, f', h', C') ∧ rv_ch h' F' C' ∧ rv_mo md f' md f' bn mn := by
  obtain ⟨-, -, m3, m4, m5, m6, m7⟩ := hm
  by_cases he : md = lm
  · subst he
    refine ⟨flc, fc, lf, kh, ?_, ?_, h, ⟨rfl, rfl, m3, m4, m5, m6, m7⟩⟩
    · unfold f_X2_enter
      rw [if_pos rfl]
    · unfold f_X6_become
      rw [if_pos rfl]
      rcases m3 with z | z
      · rw [if_pos z, z]
      · rw [if_neg (by rw [z]; decide), if_pos (m7 z), z]
  · refine ⟨upd (pm_sh flc 15) 0 (8 * ti + md), upd (pm_sh fc 15) 0 (8 * ti + md), 0, (if 16 ≤ kh then 16 else kh + 1), ?_, ?_, pm_ch h _, ⟨rfl, rfl, Or.inl rfl, hmd, hb, h2, fun z => absurd z (by decide)⟩⟩
    · unfold f_X2_enter
      rw [if_neg he]
      exact pm_enter_lp lm lf flc md ti 15 flc 16 (by omega) (by omega)
    · unfold f_X6_become
      rw [if_neg he]
      have e := pm_become_lp kg kc ke ki kw ku kn kq kr kl kz ti lm lf kh fc md 15 fc 16 (by omega) (by omega)
      have e2 : (if lf = 0 then (0 : Int32) else if md = 5 then 1 else 0) = 0 := by
        rcases m3 with z | z
        · rw [if_pos z]
        · rw [if_neg (by rw [z]; decide), if_neg (fun q => he (q.trans (m7 z).symm))]
      rw [e2] at e
      exact e
