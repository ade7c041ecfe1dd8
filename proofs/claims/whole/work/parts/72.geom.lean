/-! the sides, the corners -/
theorem pg_add {fr e : Int32} {F : Nat} (hf : fr.toInt = F) (hF : F ≤ 8) (he : kk_L e 7) : (fr + e).toNatClampNeg = F + e.toNatClampNeg := by
  obtain ⟨h1, h2⟩ := he
  have e1 : (fr + e).toInt = F + e.toInt := by rw [kk_add (by omega) (by omega), hf]
  have e2 := pn_cl h1
  have e3 := pn_cl (a := fr + e) (by omega)
  omega
theorem pg_next {fuel : Nat} {e n : Int32} (h : kk_I fuel e n) (c : ¬ n ≤ e) (hn : n.toInt ≤ 8) : (e + 1) - (e + 1) / n * n = f_X0_after n e := by
  have h4 := kk_inc c
  obtain ⟨h1, h2, h3⟩ := h
  rw [Int32.le_iff_toInt_le] at c
  have h5 := kk_rem (a := e + 1) (b := n) (by omega) (by omega)
  refine pn_inj ?_
  rw [h5, h4]
  unfold f_X0_after
  by_cases hq : n ≤ e + 1
  · rw [if_pos hq]
    rw [Int32.le_iff_toInt_le, h4] at hq
    rw [show e.toInt + 1 = n.toInt by omega, Int.emod_self]
    rfl
  · rw [if_neg hq, h4]
    rw [Int32.le_iff_toInt_le, h4] at hq
    exact Int.emod_eq_of_lt (by omega) (by omega)
/-- the corners of the fence, or those given, in the reference's arrays from F on -/
def pg_C (F : Nat) (n : Int32) (fx fy gx gy : Nat → Int32) : Prop := ∀ j : Nat, (j : Int) < n.toInt → gx (F + j) = fx j ∧ gy (F + j) = fy j
theorem pg_at {F : Nat} {n fr e : Int32} {fx fy gx gy : Nat → Int32} (h : pg_C F n fx fy gx gy) (hf : fr.toInt = F) (hF : F ≤ 8) (he : 0 ≤ e.toInt) (hen : e.toInt < n.toInt) (hn : n.toInt ≤ 8) : gx (fr + e).toNatClampNeg = fx e.toNatClampNeg ∧ gy (fr + e).toNatClampNeg = fy e.toNatClampNeg := by
  rw [pg_add hf hF ⟨he, by omega⟩]
  have e2 := pn_cl he
  exact h _ (by omega)
theorem pg_afl {n e : Int32} (hn : 0 < n.toInt) (he : 0 ≤ e.toInt) (hen : e.toInt < n.toInt) : 0 ≤ (f_X0_after n e).toInt ∧ (f_X0_after n e).toInt < n.toInt := by
  unfold f_X0_after
  have h2 := kk_hi n
  have h4 : (e + 1).toInt = e.toInt + 1 := kk_add (by rw [show (1 : Int32).toInt = 1 from rfl]; omega) (by rw [show (1 : Int32).toInt = 1 from rfl]; omega)
  by_cases hq : n ≤ e + 1
  · rw [if_pos hq, Int32.toInt_zero]
    omega
  · rw [if_neg hq, h4]
    rw [Int32.le_iff_toInt_le, h4] at hq
    omega
theorem pg_side {kg kc ke ki kw ku kn kq kr kl kz kt km kf kh : Int32} {F : Nat} {n fr e : Int32} {fx fy gx gy : Nat → Int32} (h : pg_C F n fx fy gx gy) (hf : fr.toInt = F) (hF : F ≤ 8) (he : 0 ≤ e.toInt) (hen : e.toInt < n.toInt) (hn : n.toInt ≤ 8) (x y : Int32) :
    f_X6_side kg kc ke ki kw ku kn kq kr kl kz kt km kf kh gx gy (fr + e) (fr + f_X0_after n e) x y = f_X0_side n fx fy e x y := by
  obtain ⟨a1, a2⟩ := pg_at h hf hF he hen hn
  obtain ⟨b0, b3⟩ := pg_afl (by omega) he hen
  obtain ⟨b1, b2⟩ := pg_at h hf hF b0 b3 hn
  unfold f_X6_side f_X0_side
  rw [a1, a2, b1, b2]
theorem pg_clear {kg kc ke ki kw ku kn kq kr kl kz kt km kf kh : Int32} {F : Nat} {n fr e : Int32} {fx fy gx gy : Nat → Int32} (h : pg_C F n fx fy gx gy) (hf : fr.toInt = F) (hF : F ≤ 8) (he : 0 ≤ e.toInt) (hen : e.toInt < n.toInt) (hn : n.toInt ≤ 8) (x y mg : Int32) :
    f_X6_clearOf kg kc ke ki kw ku kn kq kr kl kz kt km kf kh gx gy (fr + e) (fr + f_X0_after n e) x y mg.toInt64 = f_X0_isClear n fx fy e x y mg := by
  have hs := pg_side (kg := kg) (kc := kc) (ke := ke) (ki := ki) (kw := kw) (ku := ku) (kn := kn) (kq := kq) (kr := kr) (kl := kl) (kz := kz) (kt := kt) (km := km) (kf := kf) (kh := kh) h hf hF he hen hn x y
  obtain ⟨a1, a2⟩ := pg_at h hf hF he hen hn
  obtain ⟨b0, b3⟩ := pg_afl (by omega) he hen
  obtain ⟨b1, b2⟩ := pg_at h hf hF b0 b3 hn
  unfold f_X6_clearOf f_X0_isClear f_X0_squaredLength
  rw [hs, a1, a2, b1, b2]
theorem pg_all {kg kc ke ki kw ku kn kq kr kl kz kt km kf kh : Int32} {F : Nat} {n fr : Int32} {fx fy gx gy : Nat → Int32} (h : pg_C F n fx fy gx gy) (hf : fr.toInt = F) (hF : F ≤ 8) (hn : n.toInt ≤ 8) (x y mg : Int32) :
    ∀ (fuel : Nat) (ix : Int32), kk_I fuel ix n → g_X6_clearOfAll_lp kg kc ke ki kw ku kn kq kr kl kz kt km kf kh gx gy fr n x y mg.toInt64 fuel ix = g_X0_leaveClear_lp n fx fy x y mg fuel ix := by
  intro fuel
  induction fuel with
  | zero => intro ix hI; exact absurd hI kk_I0
  | succ fuel ih =>
    intro ix hI
    rw [g_X6_clearOfAll_lp, g_X0_leaveClear_lp]
    by_cases c : n ≤ ix
    · rw [if_pos c, if_pos c]
    · rw [if_neg c, if_neg c]
      have c2 := c
      rw [Int32.le_iff_toInt_le] at c2
      rw [show (ix + 1) - (ix + 1) / n * n = f_X0_after n ix from pg_next hI c hn, pg_clear h hf hF hI.1 (by omega) hn, ih _ (kk_Iup hI c)]
theorem pg_enough {n : Int32} (h : 3 ≤ n.toInt) : ¬ f_X0_areEnough n = 0 := by
  unfold f_X0_areEnough
  rw [if_neg (by rw [Int32.lt_iff_toInt_lt, show (3 : Int32).toInt = 3 from rfl]; omega)]
  decide
theorem pg_cl {kg kc ke ki kw ku kn kq kr kl kz kt km kf kh : Int32} {F : Nat} {n fr : Int32} {fx fy gx gy : Nat → Int32} (h : pg_C F n fx fy gx gy) (hf : fr.toInt = F) (hF : F ≤ 8) (hn : n.toInt ≤ 8) (h3 : 3 ≤ n.toInt) (x y mg : Int32) (mm : Int64) (hm : mm = mg.toInt64) :
    f_X6_clearOfAll kg kc ke ki kw ku kn kq kr kl kz kt km kf kh gx gy fr n x y mm = f_X0_leaveClear n fx fy x y mg := by
  subst hm
  unfold f_X6_clearOfAll f_X0_leaveClear
  rw [if_neg (pg_enough h3)]
  exact pg_all h hf hF hn x y mg 9 0 (kk_Ist 9 (by omega) (by omega))
theorem pg_safe {kg ke ki kw ku kn kq kr kl kz kt km kf kh bn : Int32} {fbx fby fx fy : Nat → Int32} {x y : Int32} (h : rv_fe bn bn fbx fby fx fy) (h3 : 3 ≤ bn.toInt) : f_X6_safeAt kg bn ke ki kw ku kn kq kr kl kz kt km kf kh fx fy x y = f_X0_leaveClear bn fbx fby x y 200 := by
  unfold f_X6_safeAt
  exact pg_cl (F := 8) (fun j hj => h.2.2.2 j hj) rfl (by omega) h.2.1.2 h3 x y 200 200 (by decide)
/-! convex -/
theorem pg_sq (x : Int) (h1 : -2147483648 ≤ x) (h2 : x < 2147483648) : 0 ≤ x * x ∧ x * x ≤ 4611686018427387904 ∧ (x * x = 0 → x = 0) := by
  have e : x * x = ((x.natAbs * x.natAbs : Nat) : Int) := Int.natAbs_mul_self.symm
  have hb : x.natAbs ≤ 2147483648 := by omega
  have hm : x.natAbs * x.natAbs ≤ 2147483648 * 2147483648 := Nat.mul_le_mul hb hb
  refine ⟨by rw [e]; omega, by rw [e]; omega, fun z => ?_⟩
  rcases Int.mul_eq_zero.mp z with q | q <;> exact q
theorem pg_len (d1 d2 : Int32) : lg_cmp (d1.toInt64 * d1.toInt64 + d2.toInt64 * d2.toInt64) 0 = 0 ↔ (d1 = 0 ∧ d2 = 0) := by
  have hz : lg_cmp (d1.toInt64 * d1.toInt64 + d2.toInt64 * d2.toInt64) 0 = 0 ↔ d1.toInt64 * d1.toInt64 + d2.toInt64 * d2.toInt64 = 0 := by
    unfold lg_cmp
    generalize d1.toInt64 * d1.toInt64 + d2.toInt64 * d2.toInt64 = z
    by_cases h1 : z > 0
    · rw [if_pos h1]
      refine ⟨fun q => absurd q (by decide), fun q => ?_⟩
      rw [q] at h1
      exact absurd h1 (by decide)
    · rw [if_neg h1]
      by_cases h2 : z = 0
      · rw [if_pos h2]
        exact ⟨fun _ => h2, fun _ => rfl⟩
      · rw [if_neg h2]
        exact ⟨fun q => absurd q (by decide), fun q => absurd q h2⟩
  rw [hz]
  constructor
  · intro h
    have h2 := congrArg Int64.toInt h
    obtain ⟨a1, a2, a3⟩ := pg_sq d1.toInt (kk_lo d1) (kk_hi d1)
    obtain ⟨b1, b2, b3⟩ := pg_sq d2.toInt (kk_lo d2) (kk_hi d2)
    have m1 : (d1.toInt64 * d1.toInt64).toInt = d1.toInt * d1.toInt := by
      rw [Int64.toInt_mul, Int32.toInt_toInt64]
      exact kk_bl (by omega) (by omega)
    have m2 : (d2.toInt64 * d2.toInt64).toInt = d2.toInt * d2.toInt := by
      rw [Int64.toInt_mul, Int32.toInt_toInt64]
      exact kk_bl (by omega) (by omega)
    rw [Int64.toInt_add, m1, m2, Int64.toInt_zero] at h2
    have h3 : d1.toInt * d1.toInt + d2.toInt * d2.toInt = 0 := by
      rw [Int.bmod_def] at h2
      split at h2 <;> omega
    exact ⟨pn_inj (a3 (by omega)), pn_inj (b3 (by omega))⟩
  · rintro ⟨rfl, rfl⟩
    rfl
theorem pg_sub0 (a b : Int32) : a - b = 0 ↔ b = a := by
  constructor
  · intro h
    have h2 := congrArg Int32.toInt h
    rw [Int32.toInt_sub, Int32.toInt_zero, Int.bmod_def] at h2
    have := kk_lo a
    have := kk_hi a
    have := kk_lo b
    have := kk_hi b
    refine pn_inj ?_
    split at h2 <;> omega
  · rintro rfl
    exact Int32.sub_self _
theorem pg_in {kg kc ke ki kw ku kn kq kr kl kz kt km kf kh : Int32} {fx fy gx gy : Nat → Int32} {iy kv : Int32} (h : pg_C 0 kg fx fy gx gy) (hn : kg.toInt ≤ 8) (hy : 0 ≤ iy.toInt) (hy2 : iy.toInt < kg.toInt) :
    ∀ (fuel : Nat) (iz : Int32), kk_I fuel iz kg → g_X6_convex_in kg kc ke ki kw ku kn kq kr kl kz kt km kf kh gx gy iy (f_X0_after kg iy) kv fuel iz = if g_X0_hasOthersInside_lp kg fx fy iy fuel iz = 0 then 0 else kv := by
  intro fuel
  induction fuel with
  | zero => intro iz hI; exact absurd hI kk_I0
  | succ fuel ih =>
    intro iz hI
    rw [g_X6_convex_in, g_X0_hasOthersInside_lp]
    by_cases c : kg ≤ iz
    · rw [if_pos c, if_pos c, if_neg (by decide)]
    · rw [if_neg c, if_neg c]
      have c2 := c
      rw [Int32.le_iff_toInt_le] at c2
      by_cases c3 : iz = iy
      · rw [if_pos c3, if_pos c3]
        exact ih _ (kk_Iup hI c)
      · rw [if_neg c3, if_neg c3]
        by_cases c4 : iz = f_X0_after kg iy
        · rw [if_pos c4, if_pos c4]
          exact ih _ (kk_Iup hI c)
        · rw [if_neg c4, if_neg c4]
          obtain ⟨z1, z2⟩ := pg_at (fr := 0) h rfl (by omega) hI.1 (by omega) hn
          have hs := pg_side (kg := kg) (kc := kc) (ke := ke) (ki := ki) (kw := kw) (ku := ku) (kn := kn) (kq := kq) (kr := kr) (kl := kl) (kz := kz) (kt := kt) (km := km) (kf := kf) (kh := kh) (fr := 0) h rfl (by omega) hy hy2 hn (fx iz.toNatClampNeg) (fy iz.toNatClampNeg)
          rw [Int32.zero_add] at z1 z2
          rw [Int32.zero_add, Int32.zero_add] at hs
          rw [z1, z2, hs]
          by_cases c5 : 0 < lg_cmp (f_X0_side kg fx fy iy (fx iz.toNatClampNeg) (fy iz.toNatClampNeg)) 0
          · rw [if_pos c5, if_pos c5]
            exact ih _ (kk_Iup hI c)
          · rw [if_neg c5, if_neg c5, if_pos rfl]
theorem pg_out {kg kc ke ki kw ku kn kq kr kl kz kt km kf kh : Int32} {fx fy gx gy : Nat → Int32} (h : pg_C 0 kg fx fy gx gy) (hn : kg.toInt ≤ 8) :
    ∀ (fuel : Nat) (iy : Int32), kk_I fuel iy kg → g_X6_convex_out kg kc ke ki kw ku kn kq kr kl kz kt km kf kh gx gy fuel iy = g_X0_areConvex_lp kg fx fy fuel iy := by
  intro fuel
  induction fuel with
  | zero => intro iy hI; exact absurd hI kk_I0
  | succ fuel ih =>
    intro iy hI
    rw [g_X6_convex_out, g_X0_areConvex_lp]
    by_cases c : kg ≤ iy
    · rw [if_pos c, if_pos c]
    · rw [if_neg c, if_neg c]
      have c2 := c
      rw [Int32.le_iff_toInt_le] at c2
      have hi0 := hI.1
      have en : (iy + 1) - (iy + 1) / kg * kg = f_X0_after kg iy := pg_next hI c hn
      rw [en, pg_in (kv := g_X6_convex_out kg kc ke ki kw ku kn kq kr kl kz kt km kf kh gx gy fuel (iy + 1)) h hn hI.1 (by omega) 9 0 (kk_Ist 9 (by omega) (by omega)), ih _ (kk_Iup hI c)]
      obtain ⟨a1, a2⟩ := pg_at (fr := 0) h rfl (by omega) hI.1 (by omega) hn
      obtain ⟨b0, b3⟩ := pg_afl (by omega) hI.1 (by omega : iy.toInt < kg.toInt)
      obtain ⟨b1, b2⟩ := pg_at (fr := 0) h rfl (by omega) b0 b3 hn
      rw [Int32.zero_add] at a1 a2 b1 b2
      rw [a1, a2, b1, b2]
      have hl : lg_cmp (f_X0_squaredLength kg fx fy iy) 0 = 0 ↔ (fx iy.toNatClampNeg = fx (f_X0_after kg iy).toNatClampNeg ∧ fy iy.toNatClampNeg = fy (f_X0_after kg iy).toNatClampNeg) := by
        unfold f_X0_squaredLength
        rw [pg_len, pg_sub0, pg_sub0]
      unfold f_X0_hasOthersInside
      by_cases d1 : fx iy.toNatClampNeg = fx (f_X0_after kg iy).toNatClampNeg
      · rw [if_pos d1]
        by_cases d2 : fy iy.toNatClampNeg = fy (f_X0_after kg iy).toNatClampNeg
        · rw [if_pos d2, if_pos (hl.mpr ⟨d1, d2⟩)]
        · rw [if_neg d2, if_neg (fun z => d2 (hl.mp z).2)]
      · rw [if_neg d1, if_neg (fun z => d1 (hl.mp z).1)]
theorem pg_convex {kg kc ke ki kw ku kn kq kr kl kz kt km kf kh : Int32} {fx fy gx gy : Nat → Int32} (h : pg_C 0 kg fx fy gx gy) (h0 : 0 ≤ kg.toInt) (hn : kg.toInt ≤ 8) : f_X6_convex kg kc ke ki kw ku kn kq kr kl kz kt km kf kh gx gy = f_X0_areConvex kg fx fy := by
  unfold f_X6_convex f_X0_areConvex
  exact pg_out h hn 9 0 (kk_Ist 9 h0 (by omega))
