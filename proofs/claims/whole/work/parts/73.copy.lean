/-! the loops that copy -/
theorem pc_up {e n : Int32} (he : 0 ≤ e.toInt) (c : ¬ n ≤ e) : (e + 1).toNatClampNeg = e.toNatClampNeg + 1 := by
  have h := kk_inc c
  have h1 := pn_cl he
  have h2 := pn_cl (a := e + 1) (by omega)
  omega
theorem pc_copy {cn gn : Int32} {fx fy gx gy : Nat → Int32} :
    ∀ (fuel : Nat) (ix : Int32) (hx hy : Nat → Int32), kk_I fuel ix gn → ∃ X Y : Nat → Int32, g_X0_copyFrom_lp cn fx fy gn gx gy fuel ix hx hy = (X, Y, gn) ∧ (∀ j : Nat, j < ix.toNatClampNeg → X j = hx j ∧ Y j = hy j) ∧ (∀ j : Nat, ix.toNatClampNeg ≤ j → (j : Int) < gn.toInt → X j = gx j ∧ Y j = gy j) := by
  intro fuel
  induction fuel with
  | zero => intro ix hx hy hI; exact absurd hI kk_I0
  | succ fuel ih =>
    intro ix hx hy hI
    have h0 := pn_cl hI.1
    rw [g_X0_copyFrom_lp]
    by_cases c : gn ≤ ix
    · rw [if_pos c]
      rw [Int32.le_iff_toInt_le] at c
      exact ⟨hx, hy, rfl, fun j hj => ⟨rfl, rfl⟩, fun j h1 h2 => absurd h2 (by omega)⟩
    · rw [if_neg c]
      obtain ⟨X, Y, q1, q2, q3⟩ := ih (ix + 1) (upd hx ix.toNatClampNeg (gx ix.toNatClampNeg)) (upd hy ix.toNatClampNeg (gy ix.toNatClampNeg)) (kk_Iup hI c)
      rw [pc_up hI.1 c] at q2 q3
      refine ⟨X, Y, q1, fun j hj => ?_, fun j h1 h2 => ?_⟩
      · have := q2 j (by omega)
        rw [pu_n (by omega), pu_n (by omega)] at this
        exact this
      · by_cases e : j = ix.toNatClampNeg
        · subst e
          have := q2 ix.toNatClampNeg (by omega)
          rw [pu_s, pu_s] at this
          exact this
        · exact q3 j (by omega) h2
theorem pc_fence {kg kc ke ki kw ku kn kq kr kl kz kt km kf kh cl : Int32} {fx fy : Nat → Int32} (hk : kg.toInt ≤ 8) :
    ∀ (fuel : Nat) (ix : Int32) (hx hy : Nat → Int32), kk_I fuel ix kg → ∃ X Y : Nat → Int32, g_X6_fence_lp kg kc ke ki kw ku kn kq kr kl kz kt km kf kh fx fy cl fuel ix hx hy = (0, X, Y, 0, kg, cl) ∧ (∀ j : Nat, j < 8 + ix.toNatClampNeg → X j = hx j ∧ Y j = hy j) ∧ (∀ j : Nat, ix.toNatClampNeg ≤ j → (j : Int) < kg.toInt → X (8 + j) = hx j ∧ Y (8 + j) = hy j) := by
  intro fuel
  induction fuel with
  | zero => intro ix hx hy hI; exact absurd hI kk_I0
  | succ fuel ih =>
    intro ix hx hy hI
    have h0 := pn_cl hI.1
    rw [g_X6_fence_lp]
    by_cases c : kg ≤ ix
    · rw [if_pos c]
      rw [Int32.le_iff_toInt_le] at c
      exact ⟨hx, hy, rfl, fun j hj => ⟨rfl, rfl⟩, fun j h1 h2 => absurd h2 (by omega)⟩
    · rw [if_neg c]
      have c2 := c
      rw [Int32.le_iff_toInt_le] at c2
      have e8 : (8 + ix).toNatClampNeg = 8 + ix.toNatClampNeg := pg_add (F := 8) rfl (by omega) ⟨hI.1, by omega⟩
      rw [e8]
      obtain ⟨X, Y, q1, q2, q3⟩ := ih (ix + 1) (upd hx (8 + ix.toNatClampNeg) (hx ix.toNatClampNeg)) (upd hy (8 + ix.toNatClampNeg) (hy ix.toNatClampNeg)) (kk_Iup hI c)
      rw [pc_up hI.1 c] at q2 q3
      refine ⟨X, Y, q1, fun j hj => ?_, fun j h1 h2 => ?_⟩
      · have := q2 j (by omega)
        rw [pu_n (by omega), pu_n (by omega)] at this
        exact this
      · by_cases e : j = ix.toNatClampNeg
        · subst e
          have := q2 (8 + ix.toNatClampNeg) (by omega)
          rw [pu_s, pu_s] at this
          exact this
        · have := q3 j (by omega) h2
          rw [pu_n (by omega), pu_n (by omega)] at this
          exact this
theorem pc_item {kg kc ke ki kw ku kn kq kr kl kz kt km kf kh k x y z : Int32} {fi : Nat → Int32} :
    ∀ (fuel : Nat) (ix : Int32) (f : Nat → Int32), kk_I fuel ix 24 → ∃ X : Nat → Int32, g_X6_item_lp kg kc ke ki kw ku kn kq kr kl kz kt km kf kh fi k x y z fuel ix f = (100, X, ku, 0, 0, kn + 1, 0, 0) ∧ (∀ j : Nat, j < ix.toNatClampNeg → X j = f j) ∧ (∀ j : Nat, ix.toNatClampNeg ≤ j → j < 24 → X j = f (24 + j)) := by
  intro fuel
  induction fuel with
  | zero => intro ix f hI; exact absurd hI kk_I0
  | succ fuel ih =>
    intro ix f hI
    have h0 := pn_cl hI.1
    rw [g_X6_item_lp]
    by_cases c : 24 ≤ ix
    · rw [if_pos c]
      rw [Int32.le_iff_toInt_le, show (24 : Int32).toInt = 24 from rfl] at c
      exact ⟨f, rfl, fun j hj => rfl, fun j h1 h2 => absurd h2 (by omega)⟩
    · rw [if_neg c]
      have c2 := c
      rw [Int32.le_iff_toInt_le, show (24 : Int32).toInt = 24 from rfl] at c2
      have e8 : (24 + ix).toNatClampNeg = 24 + ix.toNatClampNeg := by
        have e1 : (24 + ix).toInt = 24 + ix.toInt := by
          rw [kk_add (by rw [show (24 : Int32).toInt = 24 from rfl]; have := hI.1; omega) (by rw [show (24 : Int32).toInt = 24 from rfl]; omega)]
          rfl
        have e3 := pn_cl (a := 24 + ix) (by have := hI.1; omega)
        omega
      rw [e8]
      obtain ⟨X, q1, q2, q3⟩ := ih (ix + 1) (upd f ix.toNatClampNeg (f (24 + ix.toNatClampNeg))) (kk_Iup hI c)
      rw [pc_up hI.1 c] at q2 q3
      refine ⟨X, q1, fun j hj => ?_, fun j h1 h2 => ?_⟩
      · have := q2 j (by omega)
        rw [pu_n (by omega)] at this
        exact this
      · by_cases e : j = ix.toNatClampNeg
        · subst e
          have := q2 ix.toNatClampNeg (by omega)
          rw [pu_s] at this
          exact this
        · have := q3 j (by omega) h2
          rw [pu_n (by omega)] at this
          exact this
theorem pi_ix {u : Int32} (h : kk_L u 7) : ((u * 3) + 0).toNatClampNeg = 3 * u.toNatClampNeg ∧ ((u * 3) + 1).toNatClampNeg = 3 * u.toNatClampNeg + 1 ∧ ((u * 3) + 2).toNatClampNeg = 3 * u.toNatClampNeg + 2 ∧ (24 + (3 * u)).toNatClampNeg = 24 + 3 * u.toNatClampNeg ∧ (25 + (3 * u)).toNatClampNeg = 25 + 3 * u.toNatClampNeg ∧ (26 + (3 * u)).toNatClampNeg = 26 + 3 * u.toNatClampNeg := by
  obtain ⟨h1, h2⟩ := h
  obtain ⟨k, hk, e⟩ : ∃ k : Nat, k ≤ 7 ∧ u = nI k := nI_of2 (M := 7) (n := 7) rfl (by rw [Int32.lt_iff_toInt_lt, Int32.toInt_zero]; omega) (by rw [Int32.le_iff_toInt_le]; exact h2)
  subst e
  have hh : k = 0 ∨ k = 1 ∨ k = 2 ∨ k = 3 ∨ k = 4 ∨ k = 5 ∨ k = 6 ∨ k = 7 := by omega
  rcases hh with rfl | rfl | rfl | rfl | rfl | rfl | rfl | rfl <;> decide
/-- an item kept on both sides -/
theorem pi_keep {un mn : Int32} {fur fi fmr : Nat → Int32} (h : kk_L un 7) (hm : mn.toInt ≤ 8) (hr : ∀ j : Nat, (j : Int) < 3 * un.toInt → fi (24 + j) = fur j) (hq : ∀ j : Nat, (j : Int) < 3 * mn.toInt → fi j = fmr j) (x y z : Int32) :
    (∀ j : Nat, (j : Int) < 3 * (un + 1).toInt → (upd (upd (upd fi (24 + (3 * un)).toNatClampNeg x) (25 + (3 * un)).toNatClampNeg y) (26 + (3 * un)).toNatClampNeg z) (24 + j) = (upd (upd (upd fur ((un * 3) + 0).toNatClampNeg x) ((un * 3) + 1).toNatClampNeg y) ((un * 3) + 2).toNatClampNeg z) j) ∧
    (∀ j : Nat, (j : Int) < 3 * mn.toInt → (upd (upd (upd fi (24 + (3 * un)).toNatClampNeg x) (25 + (3 * un)).toNatClampNeg y) (26 + (3 * un)).toNatClampNeg z) j = fmr j) := by
  obtain ⟨i1, i2, i3, i4, i5, i6⟩ := pi_ix h
  rw [i1, i2, i3, i4, i5, i6]
  obtain ⟨h1, h2⟩ := h
  have e0 := pn_cl h1
  have e1 : (un + 1).toInt = un.toInt + 1 := kk_add (by rw [show (1 : Int32).toInt = 1 from rfl]; omega) (by rw [show (1 : Int32).toInt = 1 from rfl]; omega)
  rw [e1]
  refine ⟨fun j hj => ?_, fun j hj => ?_⟩
  · by_cases d2 : j = 3 * un.toNatClampNeg + 2
    · subst d2
      rw [show 24 + (3 * un.toNatClampNeg + 2) = 26 + 3 * un.toNatClampNeg by omega, pu_s, pu_s]
    · rw [pu_n (by omega), pu_n d2]
      by_cases d1 : j = 3 * un.toNatClampNeg + 1
      · subst d1
        rw [show 24 + (3 * un.toNatClampNeg + 1) = 25 + 3 * un.toNatClampNeg by omega, pu_s, pu_s]
      · rw [pu_n (by omega), pu_n d1]
        by_cases d0 : j = 3 * un.toNatClampNeg
        · subst d0
          rw [pu_s, pu_s]
        · rw [pu_n (by omega), pu_n d0]
          exact hr j (by omega)
  · rw [pu_n (by omega), pu_n (by omega), pu_n (by omega)]
    exact hq j hj
