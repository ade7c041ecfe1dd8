def f_J9_floorDiv_7cf53 (x : Int32) (y : Int32) : Int32 := (if (0 : Int32) ≤ (x ^^^ y) then (x / y) else (if ((x / y) * y) = x then (x / y) else ((x / y) - (1 : Int32))))
set_option maxHeartbeats 4000000 in
set_option maxRecDepth 100000 in
theorem k_J9_floorDiv_7cf53 (l : Launch) (D : va_G) (cI cZ : ClassId)  (sz : Nat)  (x : Int32) (y : Int32) (hy : ¬ y = 0) : kk_Mi l D cI cZ yJ9_floorDiv_7cf53 wsJ9_floorDiv_7cf53 ({ frames := 0, cells := 0, slots := 0, locals := 0 } : Room) [.int x, .int y] sz [] (fun (r : Int32) (_ : Unit) => r = f_J9_floorDiv_7cf53 x y) (fun _ => []) 0 0 := by
  refine kk_enti (cc := cJ9_floorDiv_7cf53) (maxL := 3) (ret := (some .int)) (by decide +kernel) rfl (Nat.le_of_ble_eq_true rfl) (fun p e s m args below meth c A ls hX hP hD hS hl => ?_)
  obtain ⟨hx, hb, hml, hown, hts, hr, hlk, hnm, hK, hA⟩ := hX
  have hown : s.vm.findClass RJ9 = some m.cls := hown
  have hl : lv_has ls 3 [(0, .int x), (1, .int y)] := hl
  refine lv_iload_n hx hb dJ9_floorDiv_7cf53_0 rfl (lv_at hl 0 rfl) ?_
  refine lv_iload_n hx hb dJ9_floorDiv_7cf53_1 rfl (lv_at hl 1 rfl) ?_
  refine lv_idiv hx hb dJ9_floorDiv_7cf53_2 hy ?_
  refine lv_istore_n (lv' := [(2, .int (x / y)), (0, .int x), (1, .int y)]) hx hb dJ9_floorDiv_7cf53_3 rfl hl (by decide) rfl (fun ls hl => ?_)
  refine lv_iload_n hx hb dJ9_floorDiv_7cf53_4 rfl (lv_at hl 1 rfl) ?_
  refine lv_iload_n hx hb dJ9_floorDiv_7cf53_5 rfl (lv_at hl 2 rfl) ?_
  refine lv_ixor hx hb dJ9_floorDiv_7cf53_6 ?_
  refine lv_if_ge (tgt := 21) hx hb dJ9_floorDiv_7cf53_7 (by decide) (fun c_1 => ?_) (fun c_1 => ?_)
  · refine lv_iload_n hx hb dJ9_floorDiv_7cf53_21 rfl (lv_at hl 0 rfl) ?_
    exact kk_ri () hx hb hr hlk dJ9_floorDiv_7cf53_22 hS (hP.sub [] rfl) (hD.sub [] (by decide) rfl) (by show (x / y) = f_J9_floorDiv_7cf53 x y; unfold f_J9_floorDiv_7cf53; rw [if_pos c_1]; try rfl)
  · refine lv_iload_n hx hb dJ9_floorDiv_7cf53_10 rfl (lv_at hl 0 rfl) ?_
    refine lv_iload_n hx hb dJ9_floorDiv_7cf53_11 rfl (lv_at hl 2 rfl) ?_
    refine lv_imul hx hb dJ9_floorDiv_7cf53_12 ?_
    refine lv_iload_n hx hb dJ9_floorDiv_7cf53_13 rfl (lv_at hl 1 rfl) ?_
    refine lv_icmp_eq (tgt := 21) hx hb dJ9_floorDiv_7cf53_14 (by decide) (fun c_2 => ?_) (fun c_2 => ?_)
    · refine lv_iload_n hx hb dJ9_floorDiv_7cf53_21 rfl (lv_at hl 0 rfl) ?_
      exact kk_ri () hx hb hr hlk dJ9_floorDiv_7cf53_22 hS (hP.sub [] rfl) (hD.sub [] (by decide) rfl) (by show (x / y) = f_J9_floorDiv_7cf53 x y; unfold f_J9_floorDiv_7cf53; rw [if_neg c_1]; rw [if_pos c_2]; try rfl)
    · refine lv_iload_n hx hb dJ9_floorDiv_7cf53_17 rfl (lv_at hl 0 rfl) ?_
      refine lv_iconst (v := 1) hx hb dJ9_floorDiv_7cf53_18 (by decide) ?_
      refine lv_isub hx hb dJ9_floorDiv_7cf53_19 ?_
      exact kk_ri () hx hb hr hlk dJ9_floorDiv_7cf53_20 hS (hP.sub [] rfl) (hD.sub [] (by decide) rfl) (by show ((x / y) - (1 : Int32)) = f_J9_floorDiv_7cf53 x y; unfold f_J9_floorDiv_7cf53; rw [if_neg c_1]; rw [if_neg c_2]; try rfl)
def f_X5_isWithin (v : Int32) (lo : Int32) (hi : Int32) : Int32 := (if v < lo then (0 : Int32) else (if hi < v then (0 : Int32) else (1 : Int32)))
set_option maxHeartbeats 4000000 in
set_option maxRecDepth 100000 in
theorem k_X5_isWithin (l : Launch) (D : va_G) (cI cZ : ClassId)  (sz : Nat)  (v : Int32) (lo : Int32) (hi : Int32)  : kk_Mi l D cI cZ yX5_isWithin wsX5_isWithin ({ frames := 0, cells := 0, slots := 0, locals := 0 } : Room) [.int v, .int lo, .int hi] sz [] (fun (r : Int32) (_ : Unit) => r = f_X5_isWithin v lo hi) (fun _ => []) 0 0 := by
  refine kk_enti (cc := cX5_isWithin) (maxL := 3) (ret := (some .boolean)) (by decide +kernel) rfl (Nat.le_of_ble_eq_true rfl) (fun p e s m args below meth c A ls hX hP hD hS hl => ?_)
  obtain ⟨hx, hb, hml, hown, hts, hr, hlk, hnm, hK, hA⟩ := hX
  have hown : s.vm.findClass RX5 = some m.cls := hown
  have hl : lv_has ls 3 [(0, .int v), (1, .int lo), (2, .int hi)] := hl
  refine lv_iload_n hx hb dX5_isWithin_0 rfl (lv_at hl 0 rfl) ?_
  refine lv_iload_n hx hb dX5_isWithin_1 rfl (lv_at hl 1 rfl) ?_
  refine lv_icmp_lt (tgt := 14) hx hb dX5_isWithin_2 (by decide) (fun c_1 => ?_) (fun c_1 => ?_)
  · refine lv_iconst (v := 0) hx hb dX5_isWithin_14 (by decide) ?_
    exact kk_rz () hx hb hr hlk dX5_isWithin_15 hS (hP.sub [] rfl) (hD.sub [] (by decide) rfl) rfl (by show (0 : Int32) = f_X5_isWithin v lo hi; unfold f_X5_isWithin; rw [if_pos c_1]; try rfl)
  · refine lv_iload_n hx hb dX5_isWithin_5 rfl (lv_at hl 0 rfl) ?_
    refine lv_iload_n hx hb dX5_isWithin_6 rfl (lv_at hl 2 rfl) ?_
    refine lv_icmp_gt (tgt := 14) hx hb dX5_isWithin_7 (by decide) (fun c_2 => ?_) (fun c_2 => ?_)
    · refine lv_iconst (v := 0) hx hb dX5_isWithin_14 (by decide) ?_
      exact kk_rz () hx hb hr hlk dX5_isWithin_15 hS (hP.sub [] rfl) (hD.sub [] (by decide) rfl) rfl (by show (0 : Int32) = f_X5_isWithin v lo hi; unfold f_X5_isWithin; rw [if_neg c_1]; rw [if_pos c_2]; try rfl)
    · refine lv_iconst (v := 1) hx hb dX5_isWithin_10 (by decide) ?_
      refine lv_goto (tgt := 15) hx hb dX5_isWithin_11 (by decide) ?_
      exact kk_rz () hx hb hr hlk dX5_isWithin_15 hS (hP.sub [] rfl) (hD.sub [] (by decide) rfl) rfl (by show (1 : Int32) = f_X5_isWithin v lo hi; unfold f_X5_isWithin; rw [if_neg c_1]; rw [if_neg c_2]; try rfl)
theorem kk_w01 (v lo hi : Int32) : f_X5_isWithin v lo hi = 0 ∨ f_X5_isWithin v lo hi = 1 := by
  unfold f_X5_isWithin
  split
  · exact Or.inl rfl
  · split
    · exact Or.inl rfl
    · exact Or.inr rfl
theorem kk_z01 {v : Int32} (h : v = 0 ∨ v = 1) : narrow .boolean (.int v) = .int v := by
  rcases h with rfl | rfl <;> rfl
theorem kk_within {v lo hi : Int32} (h : ¬ f_X5_isWithin v lo hi = 0) : lo ≤ v ∧ v ≤ hi := by
  unfold f_X5_isWithin at h
  split at h
  · exact absurd rfl h
  · split at h
    · exact absurd rfl h
    · rename_i h1 h2
      exact ⟨Int32.not_lt.mp h1, Int32.not_lt.mp h2⟩
theorem kk_withinL {v lo hi : Int32} {b : Int} (h : ¬ f_X5_isWithin v lo hi = 0) (hlo : lo.toInt = 0) (hhi : hi.toInt ≤ b) : kk_L v b := by
  obtain ⟨h1, h2⟩ := kk_within h
  rw [Int32.le_iff_toInt_le] at h1 h2
  exact ⟨by omega, by omega⟩
theorem kk_IL {fuel : Nat} {e n : Int32} {b : Int} (h : kk_I fuel e n) (c : ¬ n ≤ e) (hn : n.toInt ≤ b + 1) : kk_L e b := by
  obtain ⟨h1, h2, h3⟩ := h
  rw [Int32.le_iff_toInt_le] at c
  exact ⟨h1, by omega⟩
theorem kk_lt8 {a : Int32} (h : kk_L a 8) (c : ¬ (8 : Int32) ≤ a) : kk_L a 7 := by
  obtain ⟨h1, h2⟩ := h
  rw [Int32.le_iff_toInt_le, show (8 : Int32).toInt = 8 from rfl] at c
  exact ⟨h1, by omega⟩
theorem kk_L3v {a k : Int32} {b j : Int} (h : kk_L a b) (hb : b ≤ 1000) (hk : kk_L k j) (hj2 : j ≤ 1000) : kk_L (a * 3 + k) (3 * b + j) := by
  obtain ⟨h1, h2⟩ := h
  obtain ⟨k1, k2⟩ := hk
  have e1 : (a * 3).toInt = a.toInt * 3 := kk_mul (by rw [show (3 : Int32).toInt = 3 from rfl]; omega) (by rw [show (3 : Int32).toInt = 3 from rfl]; omega)
  have e2 : (a * 3 + k).toInt = a.toInt * 3 + k.toInt := by rw [kk_add (by rw [e1]; omega) (by rw [e1]; omega), e1]
  exact ⟨by omega, by omega⟩
theorem kk_dec {a : Int32} {b : Int} (h : kk_L a b) : (a - 1).toInt = a.toInt - 1 := by
  have h2 := kk_hi a
  exact kk_sub (by rw [show (1 : Int32).toInt = 1 from rfl]; have := h.1; omega) (by rw [show (1 : Int32).toInt = 1 from rfl]; omega)
