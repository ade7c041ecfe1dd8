section KKJ
variable {p : Program} {l : Launch} {e : Env} {R : Room} {s : State} {m : MethodId} {args : Array Value} {below : List Frame} {meth : Method} {c : Code} {H : Heap} {locs : List Loc} {cells slots : Nat} {Q : State → Prop}
/-- two ways that meet again with one number on the stack -/
theorem kk_jn {Cnd : Prop} (P : Nat) {pc : Nat} {ls : Array Slot} {rest st0 : List Value} [Decidable Cnd] {v1 v2 : Int32}
    (h : (Cnd → W p l e R s m args below meth c H locs cells slots Q (F0 m P ls (.int v1 :: rest))) → (¬ Cnd → W p l e R s m args below meth c H locs cells slots Q (F0 m P ls (.int v2 :: rest))) → W p l e R s m args below meth c H locs cells slots Q (F0 m pc ls st0))
    (k : W p l e R s m args below meth c H locs cells slots Q (F0 m P ls (.int (if Cnd then v1 else v2) :: rest))) : W p l e R s m args below meth c H locs cells slots Q (F0 m pc ls st0) :=
  h (fun z => by rw [if_pos z] at k; exact k) (fun z => by rw [if_neg z] at k; exact k)
end KKJ
theorem kk_oneI {D : va_G} {cI cZ cA : ClassId} {U : State} (h : va_K D vwCl ([(cI, .int), (cZ, .boolean)] ++ [(cA, .int)]) U) : cA = cI := by
  have h1 := (h.2 0 (cI, .int) rfl).2
  have h2 := (h.2 2 (cA, .int) rfl).2
  exact Option.some.inj (h2.symm.trans h1)
theorem kk_oneZ {D : va_G} {cI cZ cA : ClassId} {U : State} (h : va_K D vwCl ([(cI, .int), (cZ, .boolean)] ++ [(cA, .boolean)]) U) : cA = cZ := by
  have h1 := (h.2 1 (cZ, .boolean) rfl).2
  have h2 := (h.2 2 (cA, .boolean) rfl).2
  exact Option.some.inj (h2.symm.trans h1)
theorem kk_bm {x : Int} (h1 : -2147483648 ≤ x) (h2 : x < 2147483648) : x.bmod (2 ^ 32) = x := by
  rw [Int.bmod_def]
  split <;> omega
theorem kk_bl {x : Int} (h1 : -9223372036854775808 ≤ x) (h2 : x < 9223372036854775808) : x.bmod (2 ^ 64) = x := by
  rw [Int.bmod_def]
  split <;> omega
theorem kk_add {a b : Int32} (h1 : -2147483648 ≤ a.toInt + b.toInt) (h2 : a.toInt + b.toInt < 2147483648) : (a + b).toInt = a.toInt + b.toInt := by
  rw [Int32.toInt_add]; exact kk_bm h1 h2
theorem kk_sub {a b : Int32} (h1 : -2147483648 ≤ a.toInt - b.toInt) (h2 : a.toInt - b.toInt < 2147483648) : (a - b).toInt = a.toInt - b.toInt := by
  rw [Int32.toInt_sub]; exact kk_bm h1 h2
theorem kk_mul {a b : Int32} (h1 : -2147483648 ≤ a.toInt * b.toInt) (h2 : a.toInt * b.toInt < 2147483648) : (a * b).toInt = a.toInt * b.toInt := by
  rw [Int32.toInt_mul]; exact kk_bm h1 h2
theorem kk_lo (a : Int32) : -2147483648 ≤ a.toInt := by have := Int32.le_toInt a; omega
theorem kk_hi (a : Int32) : a.toInt < 2147483648 := by have := Int32.toInt_lt a; omega
theorem kk_inc {e n : Int32} (c : ¬ n ≤ e) : (e + 1).toInt = e.toInt + 1 := by
  rw [Int32.le_iff_toInt_le] at c
  have h2 := kk_hi n
  have h3 := kk_lo e
  exact kk_add (by rw [show (1 : Int32).toInt = 1 from rfl]; omega) (by rw [show (1 : Int32).toInt = 1 from rfl]; omega)
/-- a counter that goes up to n -/
def kk_I (fuel : Nat) (e n : Int32) : Prop := 0 ≤ e.toInt ∧ e.toInt ≤ n.toInt ∧ n.toInt < e.toInt + fuel
theorem kk_I0 {e n : Int32} : ¬ kk_I 0 e n := by
  intro h
  obtain ⟨h1, h2, h3⟩ := h
  omega
theorem kk_Iup {fuel : Nat} {e n : Int32} (h : kk_I (fuel + 1) e n) (c : ¬ n ≤ e) : kk_I fuel (e + 1) n := by
  have h4 := kk_inc c
  obtain ⟨h1, h2, h3⟩ := h
  rw [Int32.le_iff_toInt_le] at c
  unfold kk_I
  rw [h4]
  omega
theorem kk_Iix {fuel : Nat} {e n : Int32} {N : Nat} (h : kk_I fuel e n) (c : ¬ n ≤ e) (hn : n.toInt ≤ N) : vp_in e N := by
  obtain ⟨h1, h2, h3⟩ := h
  rw [Int32.le_iff_toInt_le] at c
  exact vp_in_iff.mpr ⟨h1, by omega⟩
theorem kk_Ist {n : Int32} (fuel : Nat) (h0 : 0 ≤ n.toInt) (h : n.toInt < fuel) : kk_I fuel 0 n := ⟨Int.le_refl _, h0, by rw [Int32.toInt_zero]; omega⟩
/-- a counter that goes down to 0 -/
def kk_J (fuel : Nat) (e : Int32) : Prop := 0 ≤ e.toInt ∧ e.toInt ≤ 15 ∧ e.toInt < fuel
theorem kk_J0 {e : Int32} : ¬ kk_J 0 e := by
  intro h
  obtain ⟨h1, h2, h3⟩ := h
  omega
theorem kk_Jdn {fuel : Nat} {e : Int32} (h : kk_J (fuel + 1) e) (c : ¬ e ≤ 0) : kk_J fuel (e + (-1)) := by
  obtain ⟨h1, h2, h3⟩ := h
  rw [Int32.le_iff_toInt_le, Int32.toInt_zero] at c
  have h4 : (e + (-1)).toInt = e.toInt + (-1) := kk_add (by rw [show (-1 : Int32).toInt = -1 from rfl]; omega) (by rw [show (-1 : Int32).toInt = -1 from rfl]; omega)
  unfold kk_J
  rw [h4]
  omega
theorem kk_Jix {fuel : Nat} {e : Int32} (h : kk_J fuel e) : vp_in e 16 := by
  obtain ⟨h1, h2, h3⟩ := h
  exact vp_in_iff.mpr ⟨h1, by omega⟩
theorem kk_Jix1 {fuel : Nat} {e : Int32} (h : kk_J fuel e) (c : ¬ e ≤ 0) : vp_in (e - 1) 16 := by
  obtain ⟨h1, h2, h3⟩ := h
  rw [Int32.le_iff_toInt_le, Int32.toInt_zero] at c
  have h4 : (e - 1).toInt = e.toInt - 1 := kk_sub (by rw [show (1 : Int32).toInt = 1 from rfl]; omega) (by rw [show (1 : Int32).toInt = 1 from rfl]; omega)
  exact vp_in_iff.mpr ⟨by omega, by omega⟩
/-- 0 ≤ a ≤ b -/
def kk_L (a : Int32) (b : Int) : Prop := 0 ≤ a.toInt ∧ a.toInt ≤ b
theorem kk_Lix {a : Int32} {N : Nat} (h : kk_L a ((N : Int) - 1)) : vp_in a N := vp_in_iff.mpr ⟨h.1, by have := h.2; omega⟩
theorem kk_Lix' {a : Int32} {b : Int} {N : Nat} (h : kk_L a b) (hb : b < N) : vp_in a N := vp_in_iff.mpr ⟨h.1, by have := h.2; omega⟩
theorem kk_L3 {a k : Int32} {b j : Int} (h : kk_L a b) (hb : b ≤ 1000) (hk : k.toInt = j) (hj : 0 ≤ j) (hj2 : j ≤ 1000) : kk_L (a * 3 + k) (3 * b + j) := by
  obtain ⟨h1, h2⟩ := h
  have e1 : (a * 3).toInt = a.toInt * 3 := kk_mul (by rw [show (3 : Int32).toInt = 3 from rfl]; omega) (by rw [show (3 : Int32).toInt = 3 from rfl]; omega)
  have e2 : (a * 3 + k).toInt = a.toInt * 3 + j := by rw [kk_add (by rw [e1]; omega) (by rw [e1]; omega), e1, hk]
  exact ⟨by omega, by omega⟩
theorem kk_M3 {a k : Int32} {b j : Int} (h : kk_L a b) (hb : b ≤ 1000) (hk : k.toInt = j) (hj : 0 ≤ j) (hj2 : j ≤ 1000) : kk_L (k + 3 * a) (3 * b + j) := by
  obtain ⟨h1, h2⟩ := h
  have e1 : (3 * a).toInt = 3 * a.toInt := kk_mul (by rw [show (3 : Int32).toInt = 3 from rfl]; omega) (by rw [show (3 : Int32).toInt = 3 from rfl]; omega)
  have e2 : (k + 3 * a).toInt = j + 3 * a.toInt := by rw [kk_add (by rw [e1]; omega) (by rw [e1]; omega), e1, hk]
  exact ⟨by omega, by omega⟩
theorem kk_M30 {a : Int32} {b : Int} (h : kk_L a b) (hb : b ≤ 1000) : kk_L (3 * a) (3 * b) := by
  obtain ⟨h1, h2⟩ := h
  have e1 : (3 * a).toInt = 3 * a.toInt := kk_mul (by rw [show (3 : Int32).toInt = 3 from rfl]; omega) (by rw [show (3 : Int32).toInt = 3 from rfl]; omega)
  exact ⟨by omega, by omega⟩
theorem kk_Lad {a k : Int32} {b j : Int} (h : kk_L a b) (hb : b ≤ 10000) (hk : k.toInt = j) (hj : 0 ≤ j) (hj2 : j ≤ 1000) : kk_L (a + k) (b + j) := by
  obtain ⟨h1, h2⟩ := h
  have e2 : (a + k).toInt = a.toInt + j := by rw [kk_add (by rw [hk]; omega) (by rw [hk]; omega), hk]
  exact ⟨by omega, by omega⟩
theorem kk_Lda {a k : Int32} {b j : Int} (h : kk_L a b) (hb : b ≤ 10000) (hk : k.toInt = j) (hj : 0 ≤ j) (hj2 : j ≤ 1000) : kk_L (k + a) (j + b) := by
  obtain ⟨h1, h2⟩ := h
  have e2 : (k + a).toInt = j + a.toInt := by rw [kk_add (by rw [hk]; omega) (by rw [hk]; omega), hk]
  exact ⟨by omega, by omega⟩
