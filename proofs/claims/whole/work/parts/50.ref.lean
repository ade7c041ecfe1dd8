def f_X6_within (v : Int32) (lo : Int32) (hi : Int32) : Int32 := (if v < lo then (0 : Int32) else (if hi < v then (0 : Int32) else (1 : Int32)))
set_option maxHeartbeats 4000000 in
set_option maxRecDepth 100000 in
theorem k_X6_within (l : Launch) (D : va_G) (cI cZ : ClassId)  (sz : Nat)  (v : Int32) (lo : Int32) (hi : Int32)  : kk_Mi l D cI cZ yX6_within wsX6_within ({ frames := 0, cells := 0, slots := 0, locals := 0 } : Room) [.int v, .int lo, .int hi] sz [] (fun (r : Int32) (_ : Unit) => r = f_X6_within v lo hi) (fun _ => []) 0 0 := by
  refine kk_enti (cc := cX6_within) (maxL := 3) (ret := (some .boolean)) (by decide +kernel) rfl (Nat.le_of_ble_eq_true rfl) (fun p e s m args below meth c A ls hX hP hD hS hl => ?_)
  obtain ⟨hx, hb, hml, hown, hts, hr, hlk, hnm, hK, hA⟩ := hX
  have hown : s.vm.findClass RX6 = some m.cls := hown
  have hl : lv_has ls 3 [(0, .int v), (1, .int lo), (2, .int hi)] := hl
  refine lv_iload_n hx hb dX6_within_0 rfl (lv_at hl 0 rfl) ?_
  refine lv_iload_n hx hb dX6_within_1 rfl (lv_at hl 1 rfl) ?_
  refine lv_icmp_lt (tgt := 14) hx hb dX6_within_2 (by decide) (fun c_1 => ?_) (fun c_1 => ?_)
  · refine lv_iconst (v := 0) hx hb dX6_within_14 (by decide) ?_
    exact kk_rz () hx hb hr hlk dX6_within_15 hS (hP.sub [] rfl) (hD.sub [] (by decide) rfl) rfl (by show (0 : Int32) = f_X6_within v lo hi; unfold f_X6_within; rw [if_pos c_1]; try rfl)
  · refine lv_iload_n hx hb dX6_within_5 rfl (lv_at hl 0 rfl) ?_
    refine lv_iload_n hx hb dX6_within_6 rfl (lv_at hl 2 rfl) ?_
    refine lv_icmp_gt (tgt := 14) hx hb dX6_within_7 (by decide) (fun c_2 => ?_) (fun c_2 => ?_)
    · refine lv_iconst (v := 0) hx hb dX6_within_14 (by decide) ?_
      exact kk_rz () hx hb hr hlk dX6_within_15 hS (hP.sub [] rfl) (hD.sub [] (by decide) rfl) rfl (by show (0 : Int32) = f_X6_within v lo hi; unfold f_X6_within; rw [if_neg c_1]; rw [if_pos c_2]; try rfl)
    · refine lv_iconst (v := 1) hx hb dX6_within_10 (by decide) ?_
      refine lv_goto (tgt := 15) hx hb dX6_within_11 (by decide) ?_
      exact kk_rz () hx hb hr hlk dX6_within_15 hS (hP.sub [] rfl) (hD.sub [] (by decide) rfl) rfl (by show (1 : Int32) = f_X6_within v lo hi; unfold f_X6_within; rw [if_neg c_1]; rw [if_neg c_2]; try rfl)
theorem kk_wi6 (v lo hi : Int32) : f_X6_within v lo hi = f_X5_isWithin v lo hi := rfl
theorem kk_wi6L {v lo hi : Int32} {b : Int} (h : ¬ f_X6_within v lo hi = 0) (hlo : lo.toInt = 0) (hhi : hi.toInt ≤ b) : kk_L v b := kk_withinL h hlo hhi
theorem kk_wi01 (v lo hi : Int32) : f_X6_within v lo hi = 0 ∨ f_X6_within v lo hi = 1 := kk_w01 v lo hi
def f_X6_lesser (a : Int32) (b : Int32) : Int32 := (if b ≤ a then b else a)
set_option maxHeartbeats 4000000 in
set_option maxRecDepth 100000 in
theorem k_X6_lesser (l : Launch) (D : va_G) (cI cZ : ClassId)  (sz : Nat)  (a : Int32) (b : Int32)  : kk_Mi l D cI cZ yX6_lesser wsX6_lesser ({ frames := 0, cells := 0, slots := 0, locals := 0 } : Room) [.int a, .int b] sz [] (fun (r : Int32) (_ : Unit) => r = f_X6_lesser a b) (fun _ => []) 0 0 := by
  refine kk_enti (cc := cX6_lesser) (maxL := 2) (ret := (some .int)) (by decide +kernel) rfl (Nat.le_of_ble_eq_true rfl) (fun p e s m args below meth c A ls hX hP hD hS hl => ?_)
  obtain ⟨hx, hb, hml, hown, hts, hr, hlk, hnm, hK, hA⟩ := hX
  have hown : s.vm.findClass RX6 = some m.cls := hown
  have hl : lv_has ls 2 [(0, .int a), (1, .int b)] := hl
  refine lv_iload_n hx hb dX6_lesser_0 rfl (lv_at hl 0 rfl) ?_
  refine lv_iload_n hx hb dX6_lesser_1 rfl (lv_at hl 1 rfl) ?_
  refine lv_icmp_ge (tgt := 9) hx hb dX6_lesser_2 (by decide) (fun c_1 => ?_) (fun c_1 => ?_)
  · refine lv_iload_n hx hb dX6_lesser_9 rfl (lv_at hl 1 rfl) ?_
    exact kk_ri () hx hb hr hlk dX6_lesser_10 hS (hP.sub [] rfl) (hD.sub [] (by decide) rfl) (by show b = f_X6_lesser a b; unfold f_X6_lesser; rw [if_pos c_1]; try rfl)
  · refine lv_iload_n hx hb dX6_lesser_5 rfl (lv_at hl 0 rfl) ?_
    refine lv_goto (tgt := 10) hx hb dX6_lesser_6 (by decide) ?_
    exact kk_ri () hx hb hr hlk dX6_lesser_10 hS (hP.sub [] rfl) (hD.sub [] (by decide) rfl) (by show a = f_X6_lesser a b; unfold f_X6_lesser; rw [if_neg c_1]; try rfl)
def f_X6_greater (a : Int32) (b : Int32) : Int32 := (if a ≤ b then b else a)
set_option maxHeartbeats 4000000 in
set_option maxRecDepth 100000 in
theorem k_X6_greater (l : Launch) (D : va_G) (cI cZ : ClassId)  (sz : Nat)  (a : Int32) (b : Int32)  : kk_Mi l D cI cZ yX6_greater wsX6_greater ({ frames := 0, cells := 0, slots := 0, locals := 0 } : Room) [.int a, .int b] sz [] (fun (r : Int32) (_ : Unit) => r = f_X6_greater a b) (fun _ => []) 0 0 := by
  refine kk_enti (cc := cX6_greater) (maxL := 2) (ret := (some .int)) (by decide +kernel) rfl (Nat.le_of_ble_eq_true rfl) (fun p e s m args below meth c A ls hX hP hD hS hl => ?_)
  obtain ⟨hx, hb, hml, hown, hts, hr, hlk, hnm, hK, hA⟩ := hX
  have hown : s.vm.findClass RX6 = some m.cls := hown
  have hl : lv_has ls 2 [(0, .int a), (1, .int b)] := hl
  refine lv_iload_n hx hb dX6_greater_0 rfl (lv_at hl 0 rfl) ?_
  refine lv_iload_n hx hb dX6_greater_1 rfl (lv_at hl 1 rfl) ?_
  refine lv_icmp_le (tgt := 9) hx hb dX6_greater_2 (by decide) (fun c_1 => ?_) (fun c_1 => ?_)
  · refine lv_iload_n hx hb dX6_greater_9 rfl (lv_at hl 1 rfl) ?_
    exact kk_ri () hx hb hr hlk dX6_greater_10 hS (hP.sub [] rfl) (hD.sub [] (by decide) rfl) (by show b = f_X6_greater a b; unfold f_X6_greater; rw [if_pos c_1]; try rfl)
  · refine lv_iload_n hx hb dX6_greater_5 rfl (lv_at hl 0 rfl) ?_
    refine lv_goto (tgt := 10) hx hb dX6_greater_6 (by decide) ?_
    exact kk_ri () hx hb hr hlk dX6_greater_10 hS (hP.sub [] rfl) (hD.sub [] (by decide) rfl) (by show a = f_X6_greater a b; unfold f_X6_greater; rw [if_neg c_1]; try rfl)
def f_X6_saturated (v : Int32) (n : Int32) : Int32 := (if v ≤ n then (if (-n) ≤ v then v else (-n)) else n)
set_option maxHeartbeats 4000000 in
set_option maxRecDepth 100000 in
theorem k_X6_saturated (l : Launch) (D : va_G) (cI cZ : ClassId)  (sz : Nat)  (v : Int32) (n : Int32)  : kk_Mi l D cI cZ yX6_saturated wsX6_saturated ({ frames := 0, cells := 0, slots := 0, locals := 0 } : Room) [.int v, .int n] sz [] (fun (r : Int32) (_ : Unit) => r = f_X6_saturated v n) (fun _ => []) 0 0 := by
  refine kk_enti (cc := cX6_saturated) (maxL := 2) (ret := (some .int)) (by decide +kernel) rfl (Nat.le_of_ble_eq_true rfl) (fun p e s m args below meth c A ls hX hP hD hS hl => ?_)
  obtain ⟨hx, hb, hml, hown, hts, hr, hlk, hnm, hK, hA⟩ := hX
  have hown : s.vm.findClass RX6 = some m.cls := hown
  have hl : lv_has ls 2 [(0, .int v), (1, .int n)] := hl
  refine lv_iload_n hx hb dX6_saturated_0 rfl (lv_at hl 0 rfl) ?_
  refine lv_iload_n hx hb dX6_saturated_1 rfl (lv_at hl 1 rfl) ?_
  refine lv_icmp_le (tgt := 9) hx hb dX6_saturated_2 (by decide) (fun c_1 => ?_) (fun c_1 => ?_)
  · refine lv_iload_n hx hb dX6_saturated_9 rfl (lv_at hl 0 rfl) ?_
    refine lv_iload_n hx hb dX6_saturated_10 rfl (lv_at hl 1 rfl) ?_
    refine lv_ineg hx hb dX6_saturated_11 ?_
    refine lv_icmp_ge (tgt := 20) hx hb dX6_saturated_12 (by decide) (fun c_2 => ?_) (fun c_2 => ?_)
    · refine lv_iload_n hx hb dX6_saturated_20 rfl (lv_at hl 0 rfl) ?_
      exact kk_ri () hx hb hr hlk dX6_saturated_21 hS (hP.sub [] rfl) (hD.sub [] (by decide) rfl) (by show v = f_X6_saturated v n; unfold f_X6_saturated; rw [if_pos c_1]; rw [if_pos c_2]; try rfl)
    · refine lv_iload_n hx hb dX6_saturated_15 rfl (lv_at hl 1 rfl) ?_
      refine lv_ineg hx hb dX6_saturated_16 ?_
      refine lv_goto (tgt := 21) hx hb dX6_saturated_17 (by decide) ?_
      exact kk_ri () hx hb hr hlk dX6_saturated_21 hS (hP.sub [] rfl) (hD.sub [] (by decide) rfl) (by show (-n) = f_X6_saturated v n; unfold f_X6_saturated; rw [if_pos c_1]; rw [if_neg c_2]; try rfl)
  · refine lv_iload_n hx hb dX6_saturated_5 rfl (lv_at hl 1 rfl) ?_
    refine lv_goto (tgt := 21) hx hb dX6_saturated_6 (by decide) ?_
    exact kk_ri () hx hb hr hlk dX6_saturated_21 hS (hP.sub [] rfl) (hD.sub [] (by decide) rfl) (by show n = f_X6_saturated v n; unfold f_X6_saturated; rw [if_neg c_1]; try rfl)
def f_X6_side (kg : Int32) (kc : Int32) (ke : Int32) (ki : Int32) (kw : Int32) (ku : Int32) (kn : Int32) (kq : Int32) (kr : Int32) (kl : Int32) (kz : Int32) (kt : Int32) (km : Int32) (kf : Int32) (kh : Int32) (fx : Nat → Int32) (fy : Nat → Int32) (i : Int32) (j : Int32) (x : Int32) (y : Int32) : Int64 := (((((fx j.toNatClampNeg) - (fx i.toNatClampNeg)).toInt64) * ((y - (fy i.toNatClampNeg)).toInt64)) - ((((fy j.toNatClampNeg) - (fy i.toNatClampNeg)).toInt64) * ((x - (fx i.toNatClampNeg)).toInt64)))
set_option maxHeartbeats 4000000 in
set_option maxRecDepth 100000 in
theorem k_X6_side (l : Launch) (D : va_G) (cI cZ : ClassId) (o : Nat) (kax : Nat) (kay : Nat) (kai : Nat) (kah : Nat) (kas : Nat) (kap : Nat) (kad : Nat) (kac : Nat) (sz : Nat) (kg : Int32) (kc : Int32) (ke : Int32) (ki : Int32) (kw : Int32) (ku : Int32) (kn : Int32) (kq : Int32) (kr : Int32) (kl : Int32) (kz : Int32) (kt : Int32) (km : Int32) (kf : Int32) (kh : Int32) (fx : Nat → Int32) (fy : Nat → Int32) (i : Int32) (j : Int32) (x : Int32) (y : Int32) (hi6 : kk_L i 15) (hj6 : kk_L j 15) : kk_Ml l D cI cZ yX6_side wsX6_side ({ frames := 0, cells := 0, slots := 0, locals := 0 } : Room) [.ref o, .int i, .int j, .int x, .int y] sz [(o, .inr (6, [.int kg, .int kc, .ref kax, .ref kay, .int ke, .int ki, .ref kai, .int kw, .int ku, .int kn, .int kq, .int kr, .ref kah, .ref kas, .ref kap, .ref kad, .int kl, .int kz, .int kt, .int km, .int kf, .int kh, .ref kac])), (kax, .inl (cI, 16, .inl fx)), (kay, .inl (cI, 16, .inl fy))] (fun (r : Int64) (_ : Unit) => r = f_X6_side kg kc ke ki kw ku kn kq kr kl kz kt km kf kh fx fy i j x y) (fun _ => [(o, .inr (6, [.int kg, .int kc, .ref kax, .ref kay, .int ke, .int ki, .ref kai, .int kw, .int ku, .int kn, .int kq, .int kr, .ref kah, .ref kas, .ref kap, .ref kad, .int kl, .int kz, .int kt, .int km, .int kf, .int kh, .ref kac])), (kax, .inl (cI, 16, .inl fx)), (kay, .inl (cI, 16, .inl fy))]) 0 0 := by
  refine kk_entl (cc := cX6_side) (maxL := 9) (ret := (some .long)) (by decide +kernel) rfl (Nat.le_of_ble_eq_true rfl) (fun p e s m args below meth c A ls hX hP hD hS hl => ?_)
  obtain ⟨hx, hb, hml, hown, hts, hr, hlk, hnm, hK, hA⟩ := hX
  have hown : s.vm.findClass RX6 = some m.cls := hown
  have hiX6 : ∀ w ∈ wsX60, w ∈ wsX6_side := by decide +kernel
  have hl : lv_has ls 9 [(0, .ref o), (1, .int i), (2, .int j), (3, .int x), (4, .int y)] := hl
  refine lv_aload_n hx hb dX6_side_0 rfl (lv_at hl 0 rfl) ?_
  refine va_get (D := D) hx hb hts hiX6 hown hK.1 hP 0 rfl rfl 2 (by decide) (hts (.fieldLink RX6 7 "FencePilotModel" "cornerX" "[I") (by decide +kernel)) (fun _ h9 => h9) rfl dX6_side_1 ?_
  refine lv_iload_n hx hb dX6_side_4 rfl (lv_at hl 2 rfl) ?_
  refine va_iald hx hb hK.1 hP 1 0 rfl rfl (kk_Lix hj6) dX6_side_5 ?_
  refine lv_aload_n hx hb dX6_side_6 rfl (lv_at hl 0 rfl) ?_
  refine va_get (D := D) hx hb hts hiX6 hown hK.1 hP 0 rfl rfl 2 (by decide) (hts (.fieldLink RX6 7 "FencePilotModel" "cornerX" "[I") (by decide +kernel)) (fun _ h9 => h9) rfl dX6_side_7 ?_
  refine lv_iload_n hx hb dX6_side_10 rfl (lv_at hl 1 rfl) ?_
  refine va_iald hx hb hK.1 hP 1 0 rfl rfl (kk_Lix hi6) dX6_side_11 ?_
  refine lv_isub hx hb dX6_side_12 ?_
  refine lv_i2l hx hb dX6_side_13 rfl ?_
  refine lv_iload hx hb dX6_side_14 (lv_at hl 4 rfl) ?_
  refine lv_aload_n hx hb dX6_side_16 rfl (lv_at hl 0 rfl) ?_
  refine va_get (D := D) hx hb hts hiX6 hown hK.1 hP 0 rfl rfl 3 (by decide) (hts (.fieldLink RX6 13 "FencePilotModel" "cornerY" "[I") (by decide +kernel)) (fun _ h9 => h9) rfl dX6_side_17 ?_
  refine lv_iload_n hx hb dX6_side_20 rfl (lv_at hl 1 rfl) ?_
  refine va_iald hx hb hK.1 hP 2 0 rfl rfl (kk_Lix hi6) dX6_side_21 ?_
  refine lv_isub hx hb dX6_side_22 ?_
  refine lv_i2l hx hb dX6_side_23 rfl ?_
  refine lv_lmul hx hb dX6_side_24 ?_
  refine lv_lstore (lv' := [(5, .long ((((fx j.toNatClampNeg) - (fx i.toNatClampNeg)).toInt64) * ((y - (fy i.toNatClampNeg)).toInt64))), (0, .ref o), (1, .int i), (2, .int j), (3, .int x), (4, .int y)]) hx hb dX6_side_25 hl (by decide) rfl (fun ls hl => ?_)
  refine lv_aload_n hx hb dX6_side_27 rfl (lv_at hl 1 rfl) ?_
  refine va_get (D := D) hx hb hts hiX6 hown hK.1 hP 0 rfl rfl 3 (by decide) (hts (.fieldLink RX6 13 "FencePilotModel" "cornerY" "[I") (by decide +kernel)) (fun _ h9 => h9) rfl dX6_side_28 ?_
  refine lv_iload_n hx hb dX6_side_31 rfl (lv_at hl 3 rfl) ?_
  refine va_iald hx hb hK.1 hP 2 0 rfl rfl (kk_Lix hj6) dX6_side_32 ?_
  refine lv_aload_n hx hb dX6_side_33 rfl (lv_at hl 1 rfl) ?_
  refine va_get (D := D) hx hb hts hiX6 hown hK.1 hP 0 rfl rfl 3 (by decide) (hts (.fieldLink RX6 13 "FencePilotModel" "cornerY" "[I") (by decide +kernel)) (fun _ h9 => h9) rfl dX6_side_34 ?_
  refine lv_iload_n hx hb dX6_side_37 rfl (lv_at hl 2 rfl) ?_
  refine va_iald hx hb hK.1 hP 2 0 rfl rfl (kk_Lix hi6) dX6_side_38 ?_
  refine lv_isub hx hb dX6_side_39 ?_
  refine lv_i2l hx hb dX6_side_40 rfl ?_
  refine lv_iload_n hx hb dX6_side_41 rfl (lv_at hl 4 rfl) ?_
  refine lv_aload_n hx hb dX6_side_42 rfl (lv_at hl 1 rfl) ?_
  refine va_get (D := D) hx hb hts hiX6 hown hK.1 hP 0 rfl rfl 2 (by decide) (hts (.fieldLink RX6 7 "FencePilotModel" "cornerX" "[I") (by decide +kernel)) (fun _ h9 => h9) rfl dX6_side_43 ?_
  refine lv_iload_n hx hb dX6_side_46 rfl (lv_at hl 2 rfl) ?_
  refine va_iald hx hb hK.1 hP 1 0 rfl rfl (kk_Lix hi6) dX6_side_47 ?_
  refine lv_isub hx hb dX6_side_48 ?_
  refine lv_i2l hx hb dX6_side_49 rfl ?_
  refine lv_lmul hx hb dX6_side_50 ?_
  refine lv_lstore (lv' := [(7, .long ((((fy j.toNatClampNeg) - (fy i.toNatClampNeg)).toInt64) * ((x - (fx i.toNatClampNeg)).toInt64))), (5, .long ((((fx j.toNatClampNeg) - (fx i.toNatClampNeg)).toInt64) * ((y - (fy i.toNatClampNeg)).toInt64))), (0, .ref o), (1, .int i), (2, .int j), (3, .int x), (4, .int y)]) hx hb dX6_side_51 hl (by decide) rfl (fun ls hl => ?_)
  refine lv_lload hx hb dX6_side_53 (lv_at hl 1 rfl) ?_
  refine lv_lload hx hb dX6_side_55 (lv_at hl 0 rfl) ?_
  refine lv_lsub hx hb dX6_side_57 ?_
  exact kk_rl () hx hb hr hlk dX6_side_58 hS (hP.sub [0, 1, 2] rfl) (hD.sub [0, 1, 2] (by decide) rfl) (by show (((((fx j.toNatClampNeg) - (fx i.toNatClampNeg)).toInt64) * ((y - (fy i.toNatClampNeg)).toInt64)) - ((((fy j.toNatClampNeg) - (fy i.toNatClampNeg)).toInt64) * ((x - (fx i.toNatClampNeg)).toInt64))) = f_X6_side kg kc ke ki kw ku kn kq kr kl kz kt km kf kh fx fy i j x y; unfold f_X6_side; rfl)
def f_X6_clearOf (kg : Int32) (kc : Int32) (ke : Int32) (ki : Int32) (kw : Int32) (ku : Int32) (kn : Int32) (kq : Int32) (kr : Int32) (kl : Int32) (kz : Int32) (kt : Int32) (km : Int32) (kf : Int32) (kh : Int32) (fx : Nat → Int32) (fy : Nat → Int32) (i : Int32) (j : Int32) (x : Int32) (y : Int32) (mm : Int64) : Int32 := (if (lg_cmp (f_X6_side kg kc ke ki kw ku kn kq kr kl kz kt km kf kh fx fy i j x y) (0 : Int64)) < (0 : Int32) then (0 : Int32) else (if (lg_cmp ((f_X6_side kg kc ke ki kw ku kn kq kr kl kz kt km kf kh fx fy i j x y) * (f_X6_side kg kc ke ki kw ku kn kq kr kl kz kt km kf kh fx fy i j x y)) ((mm * mm) * (((((fx j.toNatClampNeg) - (fx i.toNatClampNeg)).toInt64) * (((fx j.toNatClampNeg) - (fx i.toNatClampNeg)).toInt64)) + ((((fy j.toNatClampNeg) - (fy i.toNatClampNeg)).toInt64) * (((fy j.toNatClampNeg) - (fy i.toNatClampNeg)).toInt64))))) < (0 : Int32) then (0 : Int32) else (1 : Int32)))
set_option maxHeartbeats 4000000 in
set_option maxRecDepth 100000 in
theorem k_X6_clearOf (l : Launch) (D : va_G) (cI cZ : ClassId) (o : Nat) (kax : Nat) (kay : Nat) (kai : Nat) (kah : Nat) (kas : Nat) (kap : Nat) (kad : Nat) (kac : Nat) (sz : Nat) (kg : Int32) (kc : Int32) (ke : Int32) (ki : Int32) (kw : Int32) (ku : Int32) (kn : Int32) (kq : Int32) (kr : Int32) (kl : Int32) (kz : Int32) (kt : Int32) (km : Int32) (kf : Int32) (kh : Int32) (fx : Nat → Int32) (fy : Nat → Int32) (i : Int32) (j : Int32) (x : Int32) (y : Int32) (mm : Int64) (hi6 : kk_L i 15) (hj6 : kk_L j 15) : kk_Mi l D cI cZ yX6_clearOf wsX6_clearOf ({ frames := 1, cells := 0, slots := 0, locals := 28 } : Room) [.ref o, .int i, .int j, .int x, .int y, .long mm] sz [(o, .inr (6, [.int kg, .int kc, .ref kax, .ref kay, .int ke, .int ki, .ref kai, .int kw, .int ku, .int kn, .int kq, .int kr, .ref kah, .ref kas, .ref kap, .ref kad, .int kl, .int kz, .int kt, .int km, .int kf, .int kh, .ref kac])), (kax, .inl (cI, 16, .inl fx)), (kay, .inl (cI, 16, .inl fy))] (fun (r : Int32) (_ : Unit) => r = f_X6_clearOf kg kc ke ki kw ku kn kq kr kl kz kt km kf kh fx fy i j x y mm) (fun _ => [(o, .inr (6, [.int kg, .int kc, .ref kax, .ref kay, .int ke, .int ki, .ref kai, .int kw, .int ku, .int kn, .int kq, .int kr, .ref kah, .ref kas, .ref kap, .ref kad, .int kl, .int kz, .int kt, .int km, .int kf, .int kh, .ref kac])), (kax, .inl (cI, 16, .inl fx)), (kay, .inl (cI, 16, .inl fy))]) 0 0 := by
  refine kk_enti (cc := cX6_clearOf) (maxL := 13) (ret := (some .boolean)) (by decide +kernel) rfl (Nat.le_of_ble_eq_true rfl) (fun p e s m args below meth c A ls hX hP hD hS hl => ?_)
  obtain ⟨hx, hb, hml, hown, hts, hr, hlk, hnm, hK, hA⟩ := hX
  have hown : s.vm.findClass RX6 = some m.cls := hown
  have hiX6 : ∀ w ∈ wsX60, w ∈ wsX6_clearOf := by decide +kernel
  have hl : lv_has ls 13 [(0, .ref o), (1, .int i), (2, .int j), (3, .int x), (4, .int y), (5, .long mm)] := hl
  refine lv_aload_n hx hb dX6_clearOf_0 rfl (lv_at hl 0 rfl) ?_
  refine lv_iload_n hx hb dX6_clearOf_1 rfl (lv_at hl 1 rfl) ?_
  refine lv_iload_n hx hb dX6_clearOf_2 rfl (lv_at hl 2 rfl) ?_
  refine lv_iload_n hx hb dX6_clearOf_3 rfl (lv_at hl 3 rfl) ?_
  refine lv_iload hx hb dX6_clearOf_4 (lv_at hl 4 rfl) ?_
  refine kk_cVl (wc := [(o, .inr (6, [.int kg, .int kc, .ref kax, .ref kay, .int ke, .int ki, .ref kai, .int kw, .int ku, .int kn, .int kq, .int kr, .ref kah, .ref kas, .ref kap, .ref kad, .int kl, .int kz, .int kt, .int km, .int kf, .int kh, .ref kac])), (kax, .inl (cI, 16, .inl fx)), (kay, .inl (cI, 16, .inl fy))]) (wr := []) ⟨hx, hb, hml, hown, hts⟩ hK hP hD hS hA [0, 1, 2] [] (k_X6_side l D cI cZ o kax kay kai kah kas kap kad kac s.heap.size kg kc ke ki kw ku kn kq kr kl kz kt km kf kh fx fy i j x y (by assumption) (by assumption)) (cwV 4 hts gX6_clearOf_X6_side rfl rfl rfl (by decide +kernel) ⟨(Nat.le_of_ble_eq_true rfl), (Nat.le_of_ble_eq_true rfl)⟩) rfl rfl (by decide) (by decide) (by decide) 0 6 rfl rfl rfl rfl hl.1 rfl (Nat.le_of_ble_eq_true rfl) dX6_clearOf_6 ⟨(Nat.le_of_ble_eq_true rfl), (Nat.le_of_ble_eq_true rfl)⟩ (fun r_1 u H locs hw_2 hP hD hS => ?_)
  have hw_2 : (f_X6_side kg kc ke ki kw ku kn kq kr kl kz kt km kf kh fx fy i j x y) = r_1 := (hw_2 : r_1 = (f_X6_side kg kc ke ki kw ku kn kq kr kl kz kt km kf kh fx fy i j x y)).symm
  subst hw_2
  have hP : va_P D vwCl [(o, .inr (6, [.int kg, .int kc, .ref kax, .ref kay, .int ke, .int ki, .ref kai, .int kw, .int ku, .int kn, .int kq, .int kr, .ref kah, .ref kas, .ref kap, .ref kad, .int kl, .int kz, .int kt, .int km, .int kf, .int kh, .ref kac])), (kax, .inl (cI, 16, .inl fx)), (kay, .inl (cI, 16, .inl fy))] H := hP
  have hD : va_D A [(o, .inr (6, [.int kg, .int kc, .ref kax, .ref kay, .int ke, .int ki, .ref kai, .int kw, .int ku, .int kn, .int kq, .int kr, .ref kah, .ref kas, .ref kap, .ref kad, .int kl, .int kz, .int kt, .int km, .int kf, .int kh, .ref kac])), (kax, .inl (cI, 16, .inl fx)), (kay, .inl (cI, 16, .inl fy))] := hD
  refine lv_lstore (lv' := [(7, .long (f_X6_side kg kc ke ki kw ku kn kq kr kl kz kt km kf kh fx fy i j x y)), (0, .ref o), (1, .int i), (2, .int j), (3, .int x), (4, .int y), (5, .long mm)]) hx hb dX6_clearOf_9 hl (by decide) rfl (fun ls hl => ?_)
  refine lv_aload_n hx hb dX6_clearOf_11 rfl (lv_at hl 1 rfl) ?_
  refine va_get (D := D) hx hb hts hiX6 hown hK.1 hP 0 rfl rfl 2 (by decide) (hts (.fieldLink RX6 7 "FencePilotModel" "cornerX" "[I") (by decide +kernel)) (fun _ h9 => h9) rfl dX6_clearOf_12 ?_
  refine lv_iload_n hx hb dX6_clearOf_15 rfl (lv_at hl 3 rfl) ?_
  refine va_iald hx hb hK.1 hP 1 0 rfl rfl (kk_Lix hj6) dX6_clearOf_16 ?_
  refine lv_aload_n hx hb dX6_clearOf_17 rfl (lv_at hl 1 rfl) ?_
  refine va_get (D := D) hx hb hts hiX6 hown hK.1 hP 0 rfl rfl 2 (by decide) (hts (.fieldLink RX6 7 "FencePilotModel" "cornerX" "[I") (by decide +kernel)) (fun _ h9 => h9) rfl dX6_clearOf_18 ?_
  refine lv_iload_n hx hb dX6_clearOf_21 rfl (lv_at hl 2 rfl) ?_
  refine va_iald hx hb hK.1 hP 1 0 rfl rfl (kk_Lix hi6) dX6_clearOf_22 ?_
  refine lv_isub hx hb dX6_clearOf_23 ?_
  refine lv_i2l hx hb dX6_clearOf_24 rfl ?_
  refine lv_lstore (lv' := [(9, .long (((fx j.toNatClampNeg) - (fx i.toNatClampNeg)).toInt64)), (7, .long (f_X6_side kg kc ke ki kw ku kn kq kr kl kz kt km kf kh fx fy i j x y)), (0, .ref o), (1, .int i), (2, .int j), (3, .int x), (4, .int y), (5, .long mm)]) hx hb dX6_clearOf_25 hl (by decide) rfl (fun ls hl => ?_)
  refine lv_aload_n hx hb dX6_clearOf_27 rfl (lv_at hl 2 rfl) ?_
  refine va_get (D := D) hx hb hts hiX6 hown hK.1 hP 0 rfl rfl 3 (by decide) (hts (.fieldLink RX6 13 "FencePilotModel" "cornerY" "[I") (by decide +kernel)) (fun _ h9 => h9) rfl dX6_clearOf_28 ?_
  refine lv_iload_n hx hb dX6_clearOf_31 rfl (lv_at hl 4 rfl) ?_
  refine va_iald hx hb hK.1 hP 2 0 rfl rfl (kk_Lix hj6) dX6_clearOf_32 ?_
  refine lv_aload_n hx hb dX6_clearOf_33 rfl (lv_at hl 2 rfl) ?_
  refine va_get (D := D) hx hb hts hiX6 hown hK.1 hP 0 rfl rfl 3 (by decide) (hts (.fieldLink RX6 13 "FencePilotModel" "cornerY" "[I") (by decide +kernel)) (fun _ h9 => h9) rfl dX6_clearOf_34 ?_
  refine lv_iload_n hx hb dX6_clearOf_37 rfl (lv_at hl 3 rfl) ?_
  refine va_iald hx hb hK.1 hP 2 0 rfl rfl (kk_Lix hi6) dX6_clearOf_38 ?_
  refine lv_isub hx hb dX6_clearOf_39 ?_
  refine lv_i2l hx hb dX6_clearOf_40 rfl ?_
  refine lv_lstore (lv' := [(11, .long (((fy j.toNatClampNeg) - (fy i.toNatClampNeg)).toInt64)), (9, .long (((fx j.toNatClampNeg) - (fx i.toNatClampNeg)).toInt64)), (7, .long (f_X6_side kg kc ke ki kw ku kn kq kr kl kz kt km kf kh fx fy i j x y)), (0, .ref o), (1, .int i), (2, .int j), (3, .int x), (4, .int y), (5, .long mm)]) hx hb dX6_clearOf_41 hl (by decide) rfl (fun ls hl => ?_)
  refine lv_lload hx hb dX6_clearOf_43 (lv_at hl 2 rfl) ?_
  refine lv_lconst (v := 0) hx hb dX6_clearOf_45 (by decide) ?_
  refine W.lcmp hx hb dX6_clearOf_46 ?_
  refine lv_if_lt (tgt := 80) hx hb dX6_clearOf_47 (by decide) (fun c_3 => ?_) (fun c_3 => ?_)
  · refine lv_iconst (v := 0) hx hb dX6_clearOf_80 (by decide) ?_
    exact kk_rz () hx hb hr hlk dX6_clearOf_81 hS (hP.sub [0, 1, 2] rfl) (hD.sub [0, 1, 2] (by decide) rfl) rfl (by show (0 : Int32) = f_X6_clearOf kg kc ke ki kw ku kn kq kr kl kz kt km kf kh fx fy i j x y mm; unfold f_X6_clearOf; rw [if_pos c_3]; try rfl)
  · refine lv_lload hx hb dX6_clearOf_50 (lv_at hl 2 rfl) ?_
    refine lv_lload hx hb dX6_clearOf_52 (lv_at hl 2 rfl) ?_
    refine lv_lmul hx hb dX6_clearOf_54 ?_
    refine lv_lload hx hb dX6_clearOf_55 (lv_at hl 8 rfl) ?_
    refine lv_lload hx hb dX6_clearOf_57 (lv_at hl 8 rfl) ?_
    refine lv_lmul hx hb dX6_clearOf_59 ?_
    refine lv_lload hx hb dX6_clearOf_60 (lv_at hl 1 rfl) ?_
    refine lv_lload hx hb dX6_clearOf_62 (lv_at hl 1 rfl) ?_
    refine lv_lmul hx hb dX6_clearOf_64 ?_
    refine lv_lload hx hb dX6_clearOf_65 (lv_at hl 0 rfl) ?_
    refine lv_lload hx hb dX6_clearOf_67 (lv_at hl 0 rfl) ?_
    refine lv_lmul hx hb dX6_clearOf_69 ?_
    refine lv_ladd hx hb dX6_clearOf_70 ?_
    refine lv_lmul hx hb dX6_clearOf_71 ?_
    refine W.lcmp hx hb dX6_clearOf_72 ?_
    refine lv_if_lt (tgt := 80) hx hb dX6_clearOf_73 (by decide) (fun c_4 => ?_) (fun c_4 => ?_)
    · refine lv_iconst (v := 0) hx hb dX6_clearOf_80 (by decide) ?_
      exact kk_rz () hx hb hr hlk dX6_clearOf_81 hS (hP.sub [0, 1, 2] rfl) (hD.sub [0, 1, 2] (by decide) rfl) rfl (by show (0 : Int32) = f_X6_clearOf kg kc ke ki kw ku kn kq kr kl kz kt km kf kh fx fy i j x y mm; unfold f_X6_clearOf; rw [if_neg c_3]; rw [if_pos c_4]; try rfl)
    · refine lv_iconst (v := 1) hx hb dX6_clearOf_76 (by decide) ?_
      refine lv_goto (tgt := 81) hx hb dX6_clearOf_77 (by decide) ?_
      exact kk_rz () hx hb hr hlk dX6_clearOf_81 hS (hP.sub [0, 1, 2] rfl) (hD.sub [0, 1, 2] (by decide) rfl) rfl (by show (1 : Int32) = f_X6_clearOf kg kc ke ki kw ku kn kq kr kl kz kt km kf kh fx fy i j x y mm; unfold f_X6_clearOf; rw [if_neg c_3]; rw [if_neg c_4]; try rfl)
theorem kk_nz {fuel : Nat} {e n : Int32} (h : kk_I fuel e n) (c : ¬ n ≤ e) : ¬ n = 0 := by
  intro z
  obtain ⟨h1, h2, h3⟩ := h
  rw [z, Int32.le_iff_toInt_le, Int32.toInt_zero] at c
  exact c h1
theorem kk_addL {a k : Int32} {b j : Int} (h : kk_L a b) (hk : kk_L k j) (hb : b ≤ 10000) (hj : j ≤ 10000) : kk_L (a + k) (b + j) := by
  obtain ⟨h1, h2⟩ := h
  obtain ⟨k1, k2⟩ := hk
  have e2 : (a + k).toInt = a.toInt + k.toInt := kk_add (by omega) (by omega)
  exact ⟨by omega, by omega⟩
theorem kk_wk {a : Int32} {b j : Int} (h : kk_L a b) (hb : b ≤ j) : kk_L a j := ⟨h.1, by have := h.2; omega⟩
theorem kk_divs {a b : Int32} (ha : 0 ≤ a.toInt) (hb : 0 < b.toInt) : (a / b).toInt = a.toInt / b.toInt := by
  have h1 := kk_hi a
  have h2 : 0 ≤ a.toInt / b.toInt := Int.ediv_nonneg ha (by omega)
  have h3 : a.toInt / b.toInt ≤ a.toInt := Int.ediv_le_self _ ha
  rw [Int32.toInt_div, Int.tdiv_eq_ediv_of_nonneg ha]
  exact kk_bm (by omega) (by omega)
theorem kk_rem {a b : Int32} (ha : 0 ≤ a.toInt) (hb : 0 < b.toInt) : (a - a / b * b).toInt = a.toInt % b.toInt := by
  have h1 := kk_hi a
  have h2 : 0 ≤ a.toInt / b.toInt := Int.ediv_nonneg ha (by omega)
  have h4 := Int.mul_ediv_add_emod a.toInt b.toInt
  have h5 := Int.emod_nonneg a.toInt (show b.toInt ≠ 0 by omega)
  have h6 : 0 ≤ a.toInt / b.toInt * b.toInt := Int.mul_nonneg h2 (by omega)
  have h7 : a.toInt / b.toInt * b.toInt = b.toInt * (a.toInt / b.toInt) := Int.mul_comm _ _
  have e1 : (a / b * b).toInt = a.toInt / b.toInt * b.toInt := by
    rw [kk_mul (by rw [kk_divs ha hb]; omega) (by rw [kk_divs ha hb]; omega), kk_divs ha hb]
  rw [kk_sub (by rw [e1]; omega) (by rw [e1]; omega), e1]
  omega
theorem kk_remL {fuel : Nat} {e n : Int32} {b : Int} (h : kk_I fuel e n) (c : ¬ n ≤ e) (hn : n.toInt ≤ b + 1) : kk_L ((e + 1) - (e + 1) / n * n) b := by
  have h4 := kk_inc c
  obtain ⟨h1, h2, h3⟩ := h
  rw [Int32.le_iff_toInt_le] at c
  have h5 := kk_rem (a := e + 1) (b := n) (by omega) (by omega)
  have h6 := Int.emod_nonneg (e + 1).toInt (show n.toInt ≠ 0 by omega)
  have h7 := Int.emod_lt_of_pos (e + 1).toInt (show 0 < n.toInt by omega)
  exact ⟨by omega, by omega⟩
def g_X6_clearOfAll_lp (kg : Int32) (kc : Int32) (ke : Int32) (ki : Int32) (kw : Int32) (ku : Int32) (kn : Int32) (kq : Int32) (kr : Int32) (kl : Int32) (kz : Int32) (kt : Int32) (km : Int32) (kf : Int32) (kh : Int32) (fx : Nat → Int32) (fy : Nat → Int32) (fr0 : Int32) (n : Int32) (x : Int32) (y : Int32) (mm : Int64) : Nat → Int32 → Int32
  | 0, _ => 0
  | fuel + 1, ix => (if n ≤ ix then (1 : Int32) else (if (f_X6_clearOf kg kc ke ki kw ku kn kq kr kl kz kt km kf kh fx fy (fr0 + ix) (fr0 + ((ix + (1 : Int32)) - (ix + (1 : Int32)) / n * n)) x y mm) = (0 : Int32) then (0 : Int32) else (g_X6_clearOfAll_lp kg kc ke ki kw ku kn kq kr kl kz kt km kf kh fx fy fr0 n x y mm fuel (ix + 1))))
def f_X6_clearOfAll (kg : Int32) (kc : Int32) (ke : Int32) (ki : Int32) (kw : Int32) (ku : Int32) (kn : Int32) (kq : Int32) (kr : Int32) (kl : Int32) (kz : Int32) (kt : Int32) (km : Int32) (kf : Int32) (kh : Int32) (fx : Nat → Int32) (fy : Nat → Int32) (fr0 : Int32) (n : Int32) (x : Int32) (y : Int32) (mm : Int64) : Int32 := (g_X6_clearOfAll_lp kg kc ke ki kw ku kn kq kr kl kz kt km kf kh fx fy fr0 n x y mm 9 (0 : Int32))
set_option maxHeartbeats 4000000 in
set_option maxRecDepth 100000 in
theorem lp_X6_clearOfAll_lp (l : Launch) (D : va_G) (cI cZ : ClassId) (o : Nat) (kax : Nat) (kay : Nat) (kai : Nat) (kah : Nat) (kas : Nat) (kap : Nat) (kad : Nat) (kac : Nat) (kg : Int32) (kc : Int32) (ke : Int32) (ki : Int32) (kw : Int32) (ku : Int32) (kn : Int32) (kq : Int32) (kr : Int32) (kl : Int32) (kz : Int32) (kt : Int32) (km : Int32) (kf : Int32) (kh : Int32) (fx : Nat → Int32) (fy : Nat → Int32) (fr0 : Int32) (n : Int32) (x : Int32) (y : Int32) (mm : Int64) (hf6 : kk_L fr0 8) (hn6 : kk_L n 8)  {p : Program} {e : Env} {s : State} {m : MethodId} {args : Array Value} {below : List Frame} {meth : Method} {c : Code} {A : Nat → Prop} (hX : kk_X p s m args meth c cX6_clearOfAll 8 (some .boolean) yX6_clearOfAll wsX6_clearOfAll A D cI cZ) (FIN : Int32)  :
    ∀ (fuel : Nat) (ix : Int32) (H : Heap) (locs : List Loc) (ls : Array Slot), kk_I fuel ix n → FIN = g_X6_clearOfAll_lp kg kc ke ki kw ku kn kq kr kl kz kt km kf kh fx fy fr0 n x y mm fuel ix → va_P D vwCl [(o, .inr (6, [.int kg, .int kc, .ref kax, .ref kay, .int ke, .int ki, .ref kai, .int kw, .int ku, .int kn, .int kq, .int kr, .ref kah, .ref kas, .ref kap, .ref kad, .int kl, .int kz, .int kt, .int km, .int kf, .int kh, .ref kac])), (kax, .inl (cI, 16, .inl fx)), (kay, .inl (cI, 16, .inl fy))] H → va_D A [(o, .inr (6, [.int kg, .int kc, .ref kax, .ref kay, .int ke, .int ki, .ref kai, .int kw, .int ku, .int kn, .int kq, .int kr, .ref kah, .ref kas, .ref kap, .ref kad, .int kl, .int kz, .int kt, .int km, .int kf, .int kh, .ref kac])), (kax, .inl (cI, 16, .inl fx)), (kay, .inl (cI, 16, .inl fy))] → va_S A s.heap H locs → lv_has ls 8 [(0, .ref o), (1, .int fr0), (2, .int n), (3, .int x), (4, .int y), (5, .long mm), (7, .int ix)] → W p l e ({ frames := 2, cells := 0, slots := 0, locals := 60 } : Room) s m args below meth c H locs 0 0 (MQ below (va_Qi (fun (r : Int32) (_ : Unit) => r = FIN) (fun _ t => kk_B D A [(o, .inr (6, [.int kg, .int kc, .ref kax, .ref kay, .int ke, .int ki, .ref kai, .int kw, .int ku, .int kn, .int kq, .int kr, .ref kah, .ref kas, .ref kap, .ref kad, .int kl, .int kz, .int kt, .int km, .int kf, .int kh, .ref kac])), (kax, .inl (cI, 16, .inl fx)), (kay, .inl (cI, 16, .inl fy))] t) A) args s 0 0 A) (F0 m 3 ls []) := by
  have hX0 := hX
  obtain ⟨hx, hb, hml, hown, hts, hr, hlk, hnm, hK, hA⟩ := hX
  have hown : s.vm.findClass RX6 = some m.cls := hown
  have hiX6 : ∀ w ∈ wsX60, w ∈ wsX6_clearOfAll := by decide +kernel
  intro fuel
  induction fuel with
  | zero =>
    intro ix H locs ls hI
    exact absurd hI kk_I0
  | succ fuel ih =>
    intro ix H locs ls hI hF hP hD hS hl
    refine lv_iload hx hb dX6_clearOfAll_3 (lv_at hl 6 rfl) ?_
    refine lv_iload_n hx hb dX6_clearOfAll_5 rfl (lv_at hl 2 rfl) ?_
    refine lv_icmp_ge (tgt := 41) hx hb dX6_clearOfAll_6 (by decide) (fun c_1001 => ?_) (fun c_1001 => ?_)
    · refine lv_iconst (v := 1) hx hb dX6_clearOfAll_41 (by decide) ?_
      exact kk_rz () hx hb hr hlk dX6_clearOfAll_42 hS (hP.sub [0, 1, 2] rfl) (hD.sub [0, 1, 2] (by decide) rfl) rfl (by show (1 : Int32) = FIN; rw [hF, g_X6_clearOfAll_lp]; rw [if_pos c_1001]; try rfl)
    · refine lv_aload_n hx hb dX6_clearOfAll_9 rfl (lv_at hl 0 rfl) ?_
      refine lv_iload_n hx hb dX6_clearOfAll_10 rfl (lv_at hl 1 rfl) ?_
      refine lv_iload hx hb dX6_clearOfAll_11 (lv_at hl 6 rfl) ?_
      refine lv_iadd hx hb dX6_clearOfAll_13 ?_
      refine lv_iload_n hx hb dX6_clearOfAll_14 rfl (lv_at hl 1 rfl) ?_
      refine lv_iload hx hb dX6_clearOfAll_15 (lv_at hl 6 rfl) ?_
      refine lv_iconst (v := 1) hx hb dX6_clearOfAll_17 (by decide) ?_
      refine lv_iadd hx hb dX6_clearOfAll_18 ?_
      refine lv_iload_n hx hb dX6_clearOfAll_19 rfl (lv_at hl 2 rfl) ?_
      refine lv_irem hx hb dX6_clearOfAll_20 (kk_nz hI c_1001) ?_
      refine lv_iadd hx hb dX6_clearOfAll_21 ?_
      refine lv_iload_n hx hb dX6_clearOfAll_22 rfl (lv_at hl 3 rfl) ?_
      refine lv_iload hx hb dX6_clearOfAll_23 (lv_at hl 4 rfl) ?_
      refine lv_lload hx hb dX6_clearOfAll_25 (lv_at hl 5 rfl) ?_
      refine kk_cVi (wc := [(o, .inr (6, [.int kg, .int kc, .ref kax, .ref kay, .int ke, .int ki, .ref kai, .int kw, .int ku, .int kn, .int kq, .int kr, .ref kah, .ref kas, .ref kap, .ref kad, .int kl, .int kz, .int kt, .int km, .int kf, .int kh, .ref kac])), (kax, .inl (cI, 16, .inl fx)), (kay, .inl (cI, 16, .inl fy))]) (wr := []) ⟨hx, hb, hml, hown, hts⟩ hK hP hD hS hA [0, 1, 2] [] (k_X6_clearOf l D cI cZ o kax kay kai kah kas kap kad kac H.size kg kc ke ki kw ku kn kq kr kl kz kt km kf kh fx fy (fr0 + ix) (fr0 + ((ix + (1 : Int32)) - (ix + (1 : Int32)) / n * n)) x y mm (kk_wk (kk_addL hf6 (kk_IL (b := 7) hI c_1001 hn6.2) (by decide) (by decide)) (by decide)) (kk_wk (kk_addL hf6 (kk_remL (b := 7) hI c_1001 hn6.2) (by decide) (by decide)) (by decide))) (cwV 5 hts gX6_clearOfAll_X6_clearOf rfl rfl rfl (by decide +kernel) ⟨(Nat.le_of_ble_eq_true rfl), (Nat.le_of_ble_eq_true rfl)⟩) rfl rfl (by decide) (by decide) (by decide) 0 6 rfl rfl rfl rfl hl.1 rfl (Nat.le_of_ble_eq_true rfl) dX6_clearOfAll_27 ⟨(Nat.le_of_ble_eq_true rfl), (Nat.le_of_ble_eq_true rfl)⟩ (fun r_1002 u H locs hw_1003 hP hD hS => ?_)
      have hw_1003 : (f_X6_clearOf kg kc ke ki kw ku kn kq kr kl kz kt km kf kh fx fy (fr0 + ix) (fr0 + ((ix + (1 : Int32)) - (ix + (1 : Int32)) / n * n)) x y mm) = r_1002 := (hw_1003 : r_1002 = (f_X6_clearOf kg kc ke ki kw ku kn kq kr kl kz kt km kf kh fx fy (fr0 + ix) (fr0 + ((ix + (1 : Int32)) - (ix + (1 : Int32)) / n * n)) x y mm)).symm
      subst hw_1003
      have hP : va_P D vwCl [(o, .inr (6, [.int kg, .int kc, .ref kax, .ref kay, .int ke, .int ki, .ref kai, .int kw, .int ku, .int kn, .int kq, .int kr, .ref kah, .ref kas, .ref kap, .ref kad, .int kl, .int kz, .int kt, .int km, .int kf, .int kh, .ref kac])), (kax, .inl (cI, 16, .inl fx)), (kay, .inl (cI, 16, .inl fy))] H := hP
      have hD : va_D A [(o, .inr (6, [.int kg, .int kc, .ref kax, .ref kay, .int ke, .int ki, .ref kai, .int kw, .int ku, .int kn, .int kq, .int kr, .ref kah, .ref kas, .ref kap, .ref kad, .int kl, .int kz, .int kt, .int km, .int kf, .int kh, .ref kac])), (kax, .inl (cI, 16, .inl fx)), (kay, .inl (cI, 16, .inl fy))] := hD
      refine lv_if_ne (tgt := 35) hx hb dX6_clearOfAll_30 (by decide) (fun c_1004 => ?_) (fun c_1004 => ?_)
      · refine lv_iinc (v := (ix + 1)) (lv' := [(7, .int (ix + 1)), (0, .ref o), (1, .int fr0), (2, .int n), (3, .int x), (4, .int y), (5, .long mm)]) hx hb dX6_clearOfAll_35 hl (k := 6) rfl (by first | rfl | decide) (by decide) rfl (fun ls hl => ?_)
        refine lv_goto (tgt := 3) hx hb dX6_clearOfAll_38 (by decide) ?_
        exact ih (ix + 1) _ _ _ (kk_Iup hI c_1001) (by show FIN = (g_X6_clearOfAll_lp kg kc ke ki kw ku kn kq kr kl kz kt km kf kh fx fy fr0 n x y mm fuel (ix + 1)); rw [hF, g_X6_clearOfAll_lp]; rw [if_neg c_1001]; rw [if_neg c_1004]; try rfl) (hP.sub [0, 1, 2] rfl) (hD.sub [0, 1, 2] (by decide) rfl) hS (lv_sub hl [1, 2, 3, 4, 5, 6, 0] rfl)
      · refine lv_iconst (v := 0) hx hb dX6_clearOfAll_33 (by decide) ?_
        exact kk_rz () hx hb hr hlk dX6_clearOfAll_34 hS (hP.sub [0, 1, 2] rfl) (hD.sub [0, 1, 2] (by decide) rfl) rfl (by show (0 : Int32) = FIN; rw [hF, g_X6_clearOfAll_lp]; rw [if_neg c_1001]; rw [if_pos c_1004]; try rfl)
set_option maxHeartbeats 4000000 in
set_option maxRecDepth 100000 in
theorem k_X6_clearOfAll (l : Launch) (D : va_G) (cI cZ : ClassId) (o : Nat) (kax : Nat) (kay : Nat) (kai : Nat) (kah : Nat) (kas : Nat) (kap : Nat) (kad : Nat) (kac : Nat) (sz : Nat) (kg : Int32) (kc : Int32) (ke : Int32) (ki : Int32) (kw : Int32) (ku : Int32) (kn : Int32) (kq : Int32) (kr : Int32) (kl : Int32) (kz : Int32) (kt : Int32) (km : Int32) (kf : Int32) (kh : Int32) (fx : Nat → Int32) (fy : Nat → Int32) (fr0 : Int32) (n : Int32) (x : Int32) (y : Int32) (mm : Int64) (hf6 : kk_L fr0 8) (hn6 : kk_L n 8) : kk_Mi l D cI cZ yX6_clearOfAll wsX6_clearOfAll ({ frames := 2, cells := 0, slots := 0, locals := 60 } : Room) [.ref o, .int fr0, .int n, .int x, .int y, .long mm] sz [(o, .inr (6, [.int kg, .int kc, .ref kax, .ref kay, .int ke, .int ki, .ref kai, .int kw, .int ku, .int kn, .int kq, .int kr, .ref kah, .ref kas, .ref kap, .ref kad, .int kl, .int kz, .int kt, .int km, .int kf, .int kh, .ref kac])), (kax, .inl (cI, 16, .inl fx)), (kay, .inl (cI, 16, .inl fy))] (fun (r : Int32) (_ : Unit) => r = f_X6_clearOfAll kg kc ke ki kw ku kn kq kr kl kz kt km kf kh fx fy fr0 n x y mm) (fun _ => [(o, .inr (6, [.int kg, .int kc, .ref kax, .ref kay, .int ke, .int ki, .ref kai, .int kw, .int ku, .int kn, .int kq, .int kr, .ref kah, .ref kas, .ref kap, .ref kad, .int kl, .int kz, .int kt, .int km, .int kf, .int kh, .ref kac])), (kax, .inl (cI, 16, .inl fx)), (kay, .inl (cI, 16, .inl fy))]) 0 0 := by
  refine kk_enti (cc := cX6_clearOfAll) (maxL := 8) (ret := (some .boolean)) (by decide +kernel) rfl (Nat.le_of_ble_eq_true rfl) (fun p e s m args below meth c A ls hX hP hD hS hl => ?_)
  have hX0 := hX
  obtain ⟨hx, hb, hml, hown, hts, hr, hlk, hnm, hK, hA⟩ := hX
  have hown : s.vm.findClass RX6 = some m.cls := hown
  have hiX6 : ∀ w ∈ wsX60, w ∈ wsX6_clearOfAll := by decide +kernel
  have hl : lv_has ls 8 [(0, .ref o), (1, .int fr0), (2, .int n), (3, .int x), (4, .int y), (5, .long mm)] := hl
  refine lv_iconst (v := 0) hx hb dX6_clearOfAll_0 (by decide) ?_
  refine lv_istore (lv' := [(7, .int (0 : Int32)), (0, .ref o), (1, .int fr0), (2, .int n), (3, .int x), (4, .int y), (5, .long mm)]) hx hb dX6_clearOfAll_1 hl (by decide) rfl (fun ls hl => ?_)
  exact lp_X6_clearOfAll_lp l D cI cZ o kax kay kai kah kas kap kad kac kg kc ke ki kw ku kn kq kr kl kz kt km kf kh fx fy fr0 n x y mm hf6 hn6 hX0 (f_X6_clearOfAll kg kc ke ki kw ku kn kq kr kl kz kt km kf kh fx fy fr0 n x y mm) 9 (0 : Int32) _ _ _ (kk_Ist 9 hn6.1 (Int.lt_of_le_of_lt hn6.2 (by decide))) (by show f_X6_clearOfAll kg kc ke ki kw ku kn kq kr kl kz kt km kf kh fx fy fr0 n x y mm = (g_X6_clearOfAll_lp kg kc ke ki kw ku kn kq kr kl kz kt km kf kh fx fy fr0 n x y mm 9 (0 : Int32)); unfold f_X6_clearOfAll; rfl) (hP.sub [0, 1, 2] rfl) (hD.sub [0, 1, 2] (by decide) rfl) hS (lv_sub hl [1, 2, 3, 4, 5, 6, 0] rfl)
theorem kk_ca01 (kg kc ke ki kw ku kn kq kr kl kz kt km kf kh : Int32) (fx fy : Nat → Int32) (fr0 n x y : Int32) (mm : Int64) : ∀ (fuel : Nat) (ix : Int32), g_X6_clearOfAll_lp kg kc ke ki kw ku kn kq kr kl kz kt km kf kh fx fy fr0 n x y mm fuel ix = 0 ∨ g_X6_clearOfAll_lp kg kc ke ki kw ku kn kq kr kl kz kt km kf kh fx fy fr0 n x y mm fuel ix = 1 := by
  intro fuel
  induction fuel with
  | zero => intro ix; exact Or.inl rfl
  | succ fuel ih =>
    intro ix
    rw [g_X6_clearOfAll_lp]
    split
    · exact Or.inr rfl
    · split
      · exact Or.inl rfl
      · exact ih _
theorem kk_ca01' (kg kc ke ki kw ku kn kq kr kl kz kt km kf kh : Int32) (fx fy : Nat → Int32) (fr0 n x y : Int32) (mm : Int64) : f_X6_clearOfAll kg kc ke ki kw ku kn kq kr kl kz kt km kf kh fx fy fr0 n x y mm = 0 ∨ f_X6_clearOfAll kg kc ke ki kw ku kn kq kr kl kz kt km kf kh fx fy fr0 n x y mm = 1 := kk_ca01 _ _ _ _ _ _ _ _ _ _ _ _ _ _ _ _ _ _ _ _ _ _ _ _
def f_X6_safeAt (kg : Int32) (kc : Int32) (ke : Int32) (ki : Int32) (kw : Int32) (ku : Int32) (kn : Int32) (kq : Int32) (kr : Int32) (kl : Int32) (kz : Int32) (kt : Int32) (km : Int32) (kf : Int32) (kh : Int32) (fx : Nat → Int32) (fy : Nat → Int32) (x : Int32) (y : Int32) : Int32 := (f_X6_clearOfAll kg kc ke ki kw ku kn kq kr kl kz kt km kf kh fx fy (8 : Int32) kc x y (200 : Int64))
set_option maxHeartbeats 4000000 in
set_option maxRecDepth 100000 in
theorem k_X6_safeAt (l : Launch) (D : va_G) (cI cZ : ClassId) (o : Nat) (kax : Nat) (kay : Nat) (kai : Nat) (kah : Nat) (kas : Nat) (kap : Nat) (kad : Nat) (kac : Nat) (sz : Nat) (kg : Int32) (kc : Int32) (ke : Int32) (ki : Int32) (kw : Int32) (ku : Int32) (kn : Int32) (kq : Int32) (kr : Int32) (kl : Int32) (kz : Int32) (kt : Int32) (km : Int32) (kf : Int32) (kh : Int32) (fx : Nat → Int32) (fy : Nat → Int32) (x : Int32) (y : Int32) (hkc : kk_L kc 8) : kk_Mi l D cI cZ yX6_safeAt wsX6_safeAt ({ frames := 3, cells := 0, slots := 0, locals := 87 } : Room) [.ref o, .int x, .int y] sz [(o, .inr (6, [.int kg, .int kc, .ref kax, .ref kay, .int ke, .int ki, .ref kai, .int kw, .int ku, .int kn, .int kq, .int kr, .ref kah, .ref kas, .ref kap, .ref kad, .int kl, .int kz, .int kt, .int km, .int kf, .int kh, .ref kac])), (kax, .inl (cI, 16, .inl fx)), (kay, .inl (cI, 16, .inl fy))] (fun (r : Int32) (_ : Unit) => r = f_X6_safeAt kg kc ke ki kw ku kn kq kr kl kz kt km kf kh fx fy x y) (fun _ => [(o, .inr (6, [.int kg, .int kc, .ref kax, .ref kay, .int ke, .int ki, .ref kai, .int kw, .int ku, .int kn, .int kq, .int kr, .ref kah, .ref kas, .ref kap, .ref kad, .int kl, .int kz, .int kt, .int km, .int kf, .int kh, .ref kac])), (kax, .inl (cI, 16, .inl fx)), (kay, .inl (cI, 16, .inl fy))]) 0 0 := by
  refine kk_enti (cc := cX6_safeAt) (maxL := 3) (ret := (some .boolean)) (by decide +kernel) rfl (Nat.le_of_ble_eq_true rfl) (fun p e s m args below meth c A ls hX hP hD hS hl => ?_)
  obtain ⟨hx, hb, hml, hown, hts, hr, hlk, hnm, hK, hA⟩ := hX
  have hown : s.vm.findClass RX6 = some m.cls := hown
  have hiX6 : ∀ w ∈ wsX60, w ∈ wsX6_safeAt := by decide +kernel
  have hl : lv_has ls 3 [(0, .ref o), (1, .int x), (2, .int y)] := hl
  refine lv_aload_n hx hb dX6_safeAt_0 rfl (lv_at hl 0 rfl) ?_
  refine lv_bipush (v := 8) hx hb dX6_safeAt_1 (by decide) ?_
  refine lv_aload_n hx hb dX6_safeAt_3 rfl (lv_at hl 0 rfl) ?_
  refine va_get (D := D) hx hb hts hiX6 hown hK.1 hP 0 rfl rfl 1 (by decide) (hts (.fieldLink RX6 50 "FencePilotModel" "corners" "I") (by decide +kernel)) (fun _ h9 => h9) rfl dX6_safeAt_4 ?_
  refine lv_iload_n hx hb dX6_safeAt_7 rfl (lv_at hl 1 rfl) ?_
  refine lv_iload_n hx hb dX6_safeAt_8 rfl (lv_at hl 2 rfl) ?_
  refine lv_ldc2 hx hb hown (hts (.constantLong RX6 53 200) (by decide +kernel)) dX6_safeAt_9 ?_
  refine kk_cVi (wc := [(o, .inr (6, [.int kg, .int kc, .ref kax, .ref kay, .int ke, .int ki, .ref kai, .int kw, .int ku, .int kn, .int kq, .int kr, .ref kah, .ref kas, .ref kap, .ref kad, .int kl, .int kz, .int kt, .int km, .int kf, .int kh, .ref kac])), (kax, .inl (cI, 16, .inl fx)), (kay, .inl (cI, 16, .inl fy))]) (wr := []) ⟨hx, hb, hml, hown, hts⟩ hK hP hD hS hA [0, 1, 2] [] (k_X6_clearOfAll l D cI cZ o kax kay kai kah kas kap kad kac s.heap.size kg kc ke ki kw ku kn kq kr kl kz kt km kf kh fx fy (8 : Int32) kc x y (200 : Int64) ⟨by decide, by decide⟩ hkc) (cwV 5 hts gX6_safeAt_X6_clearOfAll rfl rfl rfl (by decide +kernel) ⟨(Nat.le_of_ble_eq_true rfl), (Nat.le_of_ble_eq_true rfl)⟩) rfl rfl (by decide) (by decide) (by decide) 0 6 rfl rfl rfl rfl hl.1 rfl (Nat.le_of_ble_eq_true rfl) dX6_safeAt_12 ⟨(Nat.le_of_ble_eq_true rfl), (Nat.le_of_ble_eq_true rfl)⟩ (fun r_1 u H locs hw_2 hP hD hS => ?_)
  have hw_2 : (f_X6_clearOfAll kg kc ke ki kw ku kn kq kr kl kz kt km kf kh fx fy (8 : Int32) kc x y (200 : Int64)) = r_1 := (hw_2 : r_1 = (f_X6_clearOfAll kg kc ke ki kw ku kn kq kr kl kz kt km kf kh fx fy (8 : Int32) kc x y (200 : Int64))).symm
  subst hw_2
  have hP : va_P D vwCl [(o, .inr (6, [.int kg, .int kc, .ref kax, .ref kay, .int ke, .int ki, .ref kai, .int kw, .int ku, .int kn, .int kq, .int kr, .ref kah, .ref kas, .ref kap, .ref kad, .int kl, .int kz, .int kt, .int km, .int kf, .int kh, .ref kac])), (kax, .inl (cI, 16, .inl fx)), (kay, .inl (cI, 16, .inl fy))] H := hP
  have hD : va_D A [(o, .inr (6, [.int kg, .int kc, .ref kax, .ref kay, .int ke, .int ki, .ref kai, .int kw, .int ku, .int kn, .int kq, .int kr, .ref kah, .ref kas, .ref kap, .ref kad, .int kl, .int kz, .int kt, .int km, .int kf, .int kh, .ref kac])), (kax, .inl (cI, 16, .inl fx)), (kay, .inl (cI, 16, .inl fy))] := hD
  exact kk_rz () hx hb hr hlk dX6_safeAt_15 hS (hP.sub [0, 1, 2] rfl) (hD.sub [0, 1, 2] (by decide) rfl) (kk_z01 (kk_ca01' _ _ _ _ _ _ _ _ _ _ _ _ _ _ _ _ _ _ _ _ _ _)) (by show (f_X6_clearOfAll kg kc ke ki kw ku kn kq kr kl kz kt km kf kh fx fy (8 : Int32) kc x y (200 : Int64)) = f_X6_safeAt kg kc ke ki kw ku kn kq kr kl kz kt km kf kh fx fy x y; unfold f_X6_safeAt; rfl)
def g_X6_convex_in (kg : Int32) (kc : Int32) (ke : Int32) (ki : Int32) (kw : Int32) (ku : Int32) (kn : Int32) (kq : Int32) (kr : Int32) (kl : Int32) (kz : Int32) (kt : Int32) (km : Int32) (kf : Int32) (kh : Int32) (fx : Nat → Int32) (fy : Nat → Int32) (iy : Int32) (nx2 : Int32) (kv : Int32) : Nat → Int32 → Int32
  | 0, _ => 0
  | fuel + 1, iz => (if kg ≤ iz then kv else (if iz = iy then (g_X6_convex_in kg kc ke ki kw ku kn kq kr kl kz kt km kf kh fx fy iy nx2 kv fuel (iz + 1)) else (if iz = nx2 then (g_X6_convex_in kg kc ke ki kw ku kn kq kr kl kz kt km kf kh fx fy iy nx2 kv fuel (iz + 1)) else (if (0 : Int32) < (lg_cmp (f_X6_side kg kc ke ki kw ku kn kq kr kl kz kt km kf kh fx fy iy nx2 (fx iz.toNatClampNeg) (fy iz.toNatClampNeg)) (0 : Int64)) then (g_X6_convex_in kg kc ke ki kw ku kn kq kr kl kz kt km kf kh fx fy iy nx2 kv fuel (iz + 1)) else (0 : Int32)))))
def g_X6_convex_out (kg : Int32) (kc : Int32) (ke : Int32) (ki : Int32) (kw : Int32) (ku : Int32) (kn : Int32) (kq : Int32) (kr : Int32) (kl : Int32) (kz : Int32) (kt : Int32) (km : Int32) (kf : Int32) (kh : Int32) (fx : Nat → Int32) (fy : Nat → Int32) : Nat → Int32 → Int32
  | 0, _ => 0
  | fuel + 1, iy => (if kg ≤ iy then (1 : Int32) else (if (fx iy.toNatClampNeg) = (fx ((iy + (1 : Int32)) - (iy + (1 : Int32)) / kg * kg).toNatClampNeg) then (if (fy iy.toNatClampNeg) = (fy ((iy + (1 : Int32)) - (iy + (1 : Int32)) / kg * kg).toNatClampNeg) then (0 : Int32) else (g_X6_convex_in kg kc ke ki kw ku kn kq kr kl kz kt km kf kh fx fy iy ((iy + (1 : Int32)) - (iy + (1 : Int32)) / kg * kg) (g_X6_convex_out kg kc ke ki kw ku kn kq kr kl kz kt km kf kh fx fy fuel (iy + 1)) 9 (0 : Int32))) else (g_X6_convex_in kg kc ke ki kw ku kn kq kr kl kz kt km kf kh fx fy iy ((iy + (1 : Int32)) - (iy + (1 : Int32)) / kg * kg) (g_X6_convex_out kg kc ke ki kw ku kn kq kr kl kz kt km kf kh fx fy fuel (iy + 1)) 9 (0 : Int32))))
def f_X6_convex (kg : Int32) (kc : Int32) (ke : Int32) (ki : Int32) (kw : Int32) (ku : Int32) (kn : Int32) (kq : Int32) (kr : Int32) (kl : Int32) (kz : Int32) (kt : Int32) (km : Int32) (kf : Int32) (kh : Int32) (fx : Nat → Int32) (fy : Nat → Int32) : Int32 := (g_X6_convex_out kg kc ke ki kw ku kn kq kr kl kz kt km kf kh fx fy 9 (0 : Int32))
set_option maxHeartbeats 4000000 in
set_option maxRecDepth 100000 in
theorem lp_X6_convex_in (l : Launch) (D : va_G) (cI cZ : ClassId) (o : Nat) (kax : Nat) (kay : Nat) (kai : Nat) (kah : Nat) (kas : Nat) (kap : Nat) (kad : Nat) (kac : Nat) (kg : Int32) (kc : Int32) (ke : Int32) (ki : Int32) (kw : Int32) (ku : Int32) (kn : Int32) (kq : Int32) (kr : Int32) (kl : Int32) (kz : Int32) (kt : Int32) (km : Int32) (kf : Int32) (kh : Int32) (fx : Nat → Int32) (fy : Nat → Int32) (iy : Int32) (nx2 : Int32) (kv : Int32) (hkg : kk_L kg 8) (hy6 : kk_L iy 7) (hx6 : kk_L nx2 7) {p : Program} {e : Env} {s : State} {m : MethodId} {args : Array Value} {below : List Frame} {meth : Method} {c : Code} {A : Nat → Prop} (hX : kk_X p s m args meth c cX6_convex 4 (some .boolean) yX6_convex wsX6_convex A D cI cZ) (FIN : Int32) (hO : FIN = kv → ∀ (H : Heap) (locs : List Loc) (ls : Array Slot), va_P D vwCl [(o, .inr (6, [.int kg, .int kc, .ref kax, .ref kay, .int ke, .int ki, .ref kai, .int kw, .int ku, .int kn, .int kq, .int kr, .ref kah, .ref kas, .ref kap, .ref kad, .int kl, .int kz, .int kt, .int km, .int kf, .int kh, .ref kac])), (kax, .inl (cI, 16, .inl fx)), (kay, .inl (cI, 16, .inl fy))] H → va_D A [(o, .inr (6, [.int kg, .int kc, .ref kax, .ref kay, .int ke, .int ki, .ref kai, .int kw, .int ku, .int kn, .int kq, .int kr, .ref kah, .ref kas, .ref kap, .ref kad, .int kl, .int kz, .int kt, .int km, .int kf, .int kh, .ref kac])), (kax, .inl (cI, 16, .inl fx)), (kay, .inl (cI, 16, .inl fy))] → va_S A s.heap H locs → lv_has ls 4 [(0, .ref o), (1, .int (iy + 1))] → W p l e ({ frames := 1, cells := 0, slots := 0, locals := 28 } : Room) s m args below meth c H locs 0 0 (MQ below (va_Qi (fun (r : Int32) (_ : Unit) => r = FIN) (fun _ t => kk_B D A [(o, .inr (6, [.int kg, .int kc, .ref kax, .ref kay, .int ke, .int ki, .ref kai, .int kw, .int ku, .int kn, .int kq, .int kr, .ref kah, .ref kas, .ref kap, .ref kad, .int kl, .int kz, .int kt, .int km, .int kf, .int kh, .ref kac])), (kax, .inl (cI, 16, .inl fx)), (kay, .inl (cI, 16, .inl fy))] t) A) args s 0 0 A) (F0 m 2 ls [])) :
    ∀ (fuel : Nat) (iz : Int32) (H : Heap) (locs : List Loc) (ls : Array Slot), kk_I fuel iz kg → FIN = g_X6_convex_in kg kc ke ki kw ku kn kq kr kl kz kt km kf kh fx fy iy nx2 kv fuel iz → va_P D vwCl [(o, .inr (6, [.int kg, .int kc, .ref kax, .ref kay, .int ke, .int ki, .ref kai, .int kw, .int ku, .int kn, .int kq, .int kr, .ref kah, .ref kas, .ref kap, .ref kad, .int kl, .int kz, .int kt, .int km, .int kf, .int kh, .ref kac])), (kax, .inl (cI, 16, .inl fx)), (kay, .inl (cI, 16, .inl fy))] H → va_D A [(o, .inr (6, [.int kg, .int kc, .ref kax, .ref kay, .int ke, .int ki, .ref kai, .int kw, .int ku, .int kn, .int kq, .int kr, .ref kah, .ref kas, .ref kap, .ref kad, .int kl, .int kz, .int kt, .int km, .int kf, .int kh, .ref kac])), (kax, .inl (cI, 16, .inl fx)), (kay, .inl (cI, 16, .inl fy))] → va_S A s.heap H locs → lv_has ls 4 [(0, .ref o), (1, .int iy), (2, .int nx2), (3, .int iz)] → W p l e ({ frames := 1, cells := 0, slots := 0, locals := 28 } : Room) s m args below meth c H locs 0 0 (MQ below (va_Qi (fun (r : Int32) (_ : Unit) => r = FIN) (fun _ t => kk_B D A [(o, .inr (6, [.int kg, .int kc, .ref kax, .ref kay, .int ke, .int ki, .ref kai, .int kw, .int ku, .int kn, .int kq, .int kr, .ref kah, .ref kas, .ref kap, .ref kad, .int kl, .int kz, .int kt, .int km, .int kf, .int kh, .ref kac])), (kax, .inl (cI, 16, .inl fx)), (kay, .inl (cI, 16, .inl fy))] t) A) args s 0 0 A) (F0 m 53 ls []) := by
  have hX0 := hX
  obtain ⟨hx, hb, hml, hown, hts, hr, hlk, hnm, hK, hA⟩ := hX
  have hown : s.vm.findClass RX6 = some m.cls := hown
  have hiX6 : ∀ w ∈ wsX60, w ∈ wsX6_convex := by decide +kernel
  intro fuel
  induction fuel with
  | zero =>
    intro iz H locs ls hJ
    exact absurd hJ kk_I0
  | succ fuel ih =>
    intro iz H locs ls hJ hF hP hD hS hl
    refine lv_iload_n hx hb dX6_convex_53 rfl (lv_at hl 3 rfl) ?_
    refine lv_aload_n hx hb dX6_convex_54 rfl (lv_at hl 0 rfl) ?_
    refine va_get (D := D) hx hb hts hiX6 hown hK.1 hP 0 rfl rfl 0 (by decide) (hts (.fieldLink RX6 47 "FencePilotModel" "given" "I") (by decide +kernel)) (fun _ h9 => h9) rfl dX6_convex_55 ?_
    refine lv_icmp_ge (tgt := 102) hx hb dX6_convex_58 (by decide) (fun c_1001 => ?_) (fun c_1001 => ?_)
    · refine lv_iinc (v := (iy + 1)) (lv' := [(1, .int (iy + 1)), (0, .ref o), (2, .int nx2), (3, .int iz)]) hx hb dX6_convex_102 hl (k := 1) rfl (by first | rfl | decide) (by decide) rfl (fun ls hl => ?_)
      refine lv_goto (tgt := 2) hx hb dX6_convex_105 (by decide) ?_
      exact hO (by show FIN = kv; rw [hF, g_X6_convex_in]; rw [if_pos c_1001]; try rfl) _ _ _ (hP.sub [0, 1, 2] rfl) (hD.sub [0, 1, 2] (by decide) rfl) hS (lv_sub hl [1, 0] rfl)
    · refine lv_iload_n hx hb dX6_convex_61 rfl (lv_at hl 3 rfl) ?_
      refine lv_iload_n hx hb dX6_convex_62 rfl (lv_at hl 1 rfl) ?_
      refine lv_icmp_eq (tgt := 96) hx hb dX6_convex_63 (by decide) (fun c_1002 => ?_) (fun c_1002 => ?_)
      · refine lv_iinc (v := (iz + 1)) (lv' := [(3, .int (iz + 1)), (0, .ref o), (1, .int iy), (2, .int nx2)]) hx hb dX6_convex_96 hl (k := 3) rfl (by first | rfl | decide) (by decide) rfl (fun ls hl => ?_)
        refine lv_goto (tgt := 53) hx hb dX6_convex_99 (by decide) ?_
        exact ih (iz + 1) _ _ _ (kk_Iup hJ c_1001) (by show FIN = (g_X6_convex_in kg kc ke ki kw ku kn kq kr kl kz kt km kf kh fx fy iy nx2 kv fuel (iz + 1)); rw [hF, g_X6_convex_in]; rw [if_neg c_1001]; rw [if_pos c_1002]; try rfl) (hP.sub [0, 1, 2] rfl) (hD.sub [0, 1, 2] (by decide) rfl) hS (lv_sub hl [1, 2, 3, 0] rfl)
      · refine lv_iload_n hx hb dX6_convex_66 rfl (lv_at hl 3 rfl) ?_
        refine lv_iload_n hx hb dX6_convex_67 rfl (lv_at hl 2 rfl) ?_
        refine lv_icmp_eq (tgt := 96) hx hb dX6_convex_68 (by decide) (fun c_1003 => ?_) (fun c_1003 => ?_)
        · refine lv_iinc (v := (iz + 1)) (lv' := [(3, .int (iz + 1)), (0, .ref o), (1, .int iy), (2, .int nx2)]) hx hb dX6_convex_96 hl (k := 3) rfl (by first | rfl | decide) (by decide) rfl (fun ls hl => ?_)
          refine lv_goto (tgt := 53) hx hb dX6_convex_99 (by decide) ?_
          exact ih (iz + 1) _ _ _ (kk_Iup hJ c_1001) (by show FIN = (g_X6_convex_in kg kc ke ki kw ku kn kq kr kl kz kt km kf kh fx fy iy nx2 kv fuel (iz + 1)); rw [hF, g_X6_convex_in]; rw [if_neg c_1001]; rw [if_neg c_1002]; rw [if_pos c_1003]; try rfl) (hP.sub [0, 1, 2] rfl) (hD.sub [0, 1, 2] (by decide) rfl) hS (lv_sub hl [1, 2, 3, 0] rfl)
        · refine lv_aload_n hx hb dX6_convex_71 rfl (lv_at hl 0 rfl) ?_
          refine lv_iload_n hx hb dX6_convex_72 rfl (lv_at hl 1 rfl) ?_
          refine lv_iload_n hx hb dX6_convex_73 rfl (lv_at hl 2 rfl) ?_
          refine lv_aload_n hx hb dX6_convex_74 rfl (lv_at hl 0 rfl) ?_
          refine va_get (D := D) hx hb hts hiX6 hown hK.1 hP 0 rfl rfl 2 (by decide) (hts (.fieldLink RX6 7 "FencePilotModel" "cornerX" "[I") (by decide +kernel)) (fun _ h9 => h9) rfl dX6_convex_75 ?_
          refine lv_iload_n hx hb dX6_convex_78 rfl (lv_at hl 3 rfl) ?_
          refine va_iald hx hb hK.1 hP 1 0 rfl rfl (kk_Iix hJ c_1001 (Int.le_trans hkg.2 (by decide))) dX6_convex_79 ?_
          refine lv_aload_n hx hb dX6_convex_80 rfl (lv_at hl 0 rfl) ?_
          refine va_get (D := D) hx hb hts hiX6 hown hK.1 hP 0 rfl rfl 3 (by decide) (hts (.fieldLink RX6 13 "FencePilotModel" "cornerY" "[I") (by decide +kernel)) (fun _ h9 => h9) rfl dX6_convex_81 ?_
          refine lv_iload_n hx hb dX6_convex_84 rfl (lv_at hl 3 rfl) ?_
          refine va_iald hx hb hK.1 hP 2 0 rfl rfl (kk_Iix hJ c_1001 (Int.le_trans hkg.2 (by decide))) dX6_convex_85 ?_
          refine kk_cVl (wc := [(o, .inr (6, [.int kg, .int kc, .ref kax, .ref kay, .int ke, .int ki, .ref kai, .int kw, .int ku, .int kn, .int kq, .int kr, .ref kah, .ref kas, .ref kap, .ref kad, .int kl, .int kz, .int kt, .int km, .int kf, .int kh, .ref kac])), (kax, .inl (cI, 16, .inl fx)), (kay, .inl (cI, 16, .inl fy))]) (wr := []) ⟨hx, hb, hml, hown, hts⟩ hK hP hD hS hA [0, 1, 2] [] (k_X6_side l D cI cZ o kax kay kai kah kas kap kad kac H.size kg kc ke ki kw ku kn kq kr kl kz kt km kf kh fx fy iy nx2 (fx iz.toNatClampNeg) (fy iz.toNatClampNeg) (kk_wk hy6 (by decide)) (kk_wk hx6 (by decide))) (cwV 4 hts gX6_convex_X6_side rfl rfl rfl (by decide +kernel) ⟨(Nat.le_of_ble_eq_true rfl), (Nat.le_of_ble_eq_true rfl)⟩) rfl rfl (by decide) (by decide) (by decide) 0 6 rfl rfl rfl rfl hl.1 rfl (Nat.le_of_ble_eq_true rfl) dX6_convex_86 ⟨(Nat.le_of_ble_eq_true rfl), (Nat.le_of_ble_eq_true rfl)⟩ (fun r_1004 u H locs hw_1005 hP hD hS => ?_)
          have hw_1005 : (f_X6_side kg kc ke ki kw ku kn kq kr kl kz kt km kf kh fx fy iy nx2 (fx iz.toNatClampNeg) (fy iz.toNatClampNeg)) = r_1004 := (hw_1005 : r_1004 = (f_X6_side kg kc ke ki kw ku kn kq kr kl kz kt km kf kh fx fy iy nx2 (fx iz.toNatClampNeg) (fy iz.toNatClampNeg))).symm
          subst hw_1005
          have hP : va_P D vwCl [(o, .inr (6, [.int kg, .int kc, .ref kax, .ref kay, .int ke, .int ki, .ref kai, .int kw, .int ku, .int kn, .int kq, .int kr, .ref kah, .ref kas, .ref kap, .ref kad, .int kl, .int kz, .int kt, .int km, .int kf, .int kh, .ref kac])), (kax, .inl (cI, 16, .inl fx)), (kay, .inl (cI, 16, .inl fy))] H := hP
          have hD : va_D A [(o, .inr (6, [.int kg, .int kc, .ref kax, .ref kay, .int ke, .int ki, .ref kai, .int kw, .int ku, .int kn, .int kq, .int kr, .ref kah, .ref kas, .ref kap, .ref kad, .int kl, .int kz, .int kt, .int km, .int kf, .int kh, .ref kac])), (kax, .inl (cI, 16, .inl fx)), (kay, .inl (cI, 16, .inl fy))] := hD
          refine lv_lconst (v := 0) hx hb dX6_convex_89 (by decide) ?_
          refine W.lcmp hx hb dX6_convex_90 ?_
          refine lv_if_gt (tgt := 96) hx hb dX6_convex_91 (by decide) (fun c_1006 => ?_) (fun c_1006 => ?_)
          · refine lv_iinc (v := (iz + 1)) (lv' := [(3, .int (iz + 1)), (0, .ref o), (1, .int iy), (2, .int nx2)]) hx hb dX6_convex_96 hl (k := 3) rfl (by first | rfl | decide) (by decide) rfl (fun ls hl => ?_)
            refine lv_goto (tgt := 53) hx hb dX6_convex_99 (by decide) ?_
            exact ih (iz + 1) _ _ _ (kk_Iup hJ c_1001) (by show FIN = (g_X6_convex_in kg kc ke ki kw ku kn kq kr kl kz kt km kf kh fx fy iy nx2 kv fuel (iz + 1)); rw [hF, g_X6_convex_in]; rw [if_neg c_1001]; rw [if_neg c_1002]; rw [if_neg c_1003]; rw [if_pos c_1006]; try rfl) (hP.sub [0, 1, 2] rfl) (hD.sub [0, 1, 2] (by decide) rfl) hS (lv_sub hl [1, 2, 3, 0] rfl)
          · refine lv_iconst (v := 0) hx hb dX6_convex_94 (by decide) ?_
            exact kk_rz () hx hb hr hlk dX6_convex_95 hS (hP.sub [0, 1, 2] rfl) (hD.sub [0, 1, 2] (by decide) rfl) rfl (by show (0 : Int32) = FIN; rw [hF, g_X6_convex_in]; rw [if_neg c_1001]; rw [if_neg c_1002]; rw [if_neg c_1003]; rw [if_neg c_1006]; try rfl)
set_option maxHeartbeats 4000000 in
set_option maxRecDepth 100000 in
theorem lp_X6_convex_out (l : Launch) (D : va_G) (cI cZ : ClassId) (o : Nat) (kax : Nat) (kay : Nat) (kai : Nat) (kah : Nat) (kas : Nat) (kap : Nat) (kad : Nat) (kac : Nat) (kg : Int32) (kc : Int32) (ke : Int32) (ki : Int32) (kw : Int32) (ku : Int32) (kn : Int32) (kq : Int32) (kr : Int32) (kl : Int32) (kz : Int32) (kt : Int32) (km : Int32) (kf : Int32) (kh : Int32) (fx : Nat → Int32) (fy : Nat → Int32) (hkg : kk_L kg 8)  {p : Program} {e : Env} {s : State} {m : MethodId} {args : Array Value} {below : List Frame} {meth : Method} {c : Code} {A : Nat → Prop} (hX : kk_X p s m args meth c cX6_convex 4 (some .boolean) yX6_convex wsX6_convex A D cI cZ) (FIN : Int32)  :
    ∀ (fuel : Nat) (iy : Int32) (H : Heap) (locs : List Loc) (ls : Array Slot), kk_I fuel iy kg → FIN = g_X6_convex_out kg kc ke ki kw ku kn kq kr kl kz kt km kf kh fx fy fuel iy → va_P D vwCl [(o, .inr (6, [.int kg, .int kc, .ref kax, .ref kay, .int ke, .int ki, .ref kai, .int kw, .int ku, .int kn, .int kq, .int kr, .ref kah, .ref kas, .ref kap, .ref kad, .int kl, .int kz, .int kt, .int km, .int kf, .int kh, .ref kac])), (kax, .inl (cI, 16, .inl fx)), (kay, .inl (cI, 16, .inl fy))] H → va_D A [(o, .inr (6, [.int kg, .int kc, .ref kax, .ref kay, .int ke, .int ki, .ref kai, .int kw, .int ku, .int kn, .int kq, .int kr, .ref kah, .ref kas, .ref kap, .ref kad, .int kl, .int kz, .int kt, .int km, .int kf, .int kh, .ref kac])), (kax, .inl (cI, 16, .inl fx)), (kay, .inl (cI, 16, .inl fy))] → va_S A s.heap H locs → lv_has ls 4 [(0, .ref o), (1, .int iy)] → W p l e ({ frames := 1, cells := 0, slots := 0, locals := 28 } : Room) s m args below meth c H locs 0 0 (MQ below (va_Qi (fun (r : Int32) (_ : Unit) => r = FIN) (fun _ t => kk_B D A [(o, .inr (6, [.int kg, .int kc, .ref kax, .ref kay, .int ke, .int ki, .ref kai, .int kw, .int ku, .int kn, .int kq, .int kr, .ref kah, .ref kas, .ref kap, .ref kad, .int kl, .int kz, .int kt, .int km, .int kf, .int kh, .ref kac])), (kax, .inl (cI, 16, .inl fx)), (kay, .inl (cI, 16, .inl fy))] t) A) args s 0 0 A) (F0 m 2 ls []) := by
  have hX0 := hX
  obtain ⟨hx, hb, hml, hown, hts, hr, hlk, hnm, hK, hA⟩ := hX
  have hown : s.vm.findClass RX6 = some m.cls := hown
  have hiX6 : ∀ w ∈ wsX60, w ∈ wsX6_convex := by decide +kernel
  intro fuel
  induction fuel with
  | zero =>
    intro iy H locs ls hI
    exact absurd hI kk_I0
  | succ fuel ih =>
    intro iy H locs ls hI hF hP hD hS hl
    refine lv_iload_n hx hb dX6_convex_2 rfl (lv_at hl 1 rfl) ?_
    refine lv_aload_n hx hb dX6_convex_3 rfl (lv_at hl 0 rfl) ?_
    refine va_get (D := D) hx hb hts hiX6 hown hK.1 hP 0 rfl rfl 0 (by decide) (hts (.fieldLink RX6 47 "FencePilotModel" "given" "I") (by decide +kernel)) (fun _ h9 => h9) rfl dX6_convex_4 ?_
    refine lv_icmp_ge (tgt := 108) hx hb dX6_convex_7 (by decide) (fun c_2001 => ?_) (fun c_2001 => ?_)
    · refine lv_iconst (v := 1) hx hb dX6_convex_108 (by decide) ?_
      exact kk_rz () hx hb hr hlk dX6_convex_109 hS (hP.sub [0, 1, 2] rfl) (hD.sub [0, 1, 2] (by decide) rfl) rfl (by show (1 : Int32) = FIN; rw [hF, g_X6_convex_out]; rw [if_pos c_2001]; try rfl)
    · refine lv_iload_n hx hb dX6_convex_10 rfl (lv_at hl 1 rfl) ?_
      refine lv_iconst (v := 1) hx hb dX6_convex_11 (by decide) ?_
      refine lv_iadd hx hb dX6_convex_12 ?_
      refine lv_aload_n hx hb dX6_convex_13 rfl (lv_at hl 0 rfl) ?_
      refine va_get (D := D) hx hb hts hiX6 hown hK.1 hP 0 rfl rfl 0 (by decide) (hts (.fieldLink RX6 47 "FencePilotModel" "given" "I") (by decide +kernel)) (fun _ h9 => h9) rfl dX6_convex_14 ?_
      refine lv_irem hx hb dX6_convex_17 (kk_nz hI c_2001) ?_
      refine lv_istore_n (lv' := [(2, .int ((iy + (1 : Int32)) - (iy + (1 : Int32)) / kg * kg)), (0, .ref o), (1, .int iy)]) hx hb dX6_convex_18 rfl hl (by decide) rfl (fun ls hl => ?_)
      refine lv_aload_n hx hb dX6_convex_19 rfl (lv_at hl 1 rfl) ?_
      refine va_get (D := D) hx hb hts hiX6 hown hK.1 hP 0 rfl rfl 2 (by decide) (hts (.fieldLink RX6 7 "FencePilotModel" "cornerX" "[I") (by decide +kernel)) (fun _ h9 => h9) rfl dX6_convex_20 ?_
      refine lv_iload_n hx hb dX6_convex_23 rfl (lv_at hl 2 rfl) ?_
      refine va_iald hx hb hK.1 hP 1 0 rfl rfl (kk_Iix hI c_2001 (Int.le_trans hkg.2 (by decide))) dX6_convex_24 ?_
      refine lv_aload_n hx hb dX6_convex_25 rfl (lv_at hl 1 rfl) ?_
      refine va_get (D := D) hx hb hts hiX6 hown hK.1 hP 0 rfl rfl 2 (by decide) (hts (.fieldLink RX6 7 "FencePilotModel" "cornerX" "[I") (by decide +kernel)) (fun _ h9 => h9) rfl dX6_convex_26 ?_
      refine lv_iload_n hx hb dX6_convex_29 rfl (lv_at hl 0 rfl) ?_
      refine va_iald hx hb hK.1 hP 1 0 rfl rfl (kk_Lix' (kk_remL (b := 7) hI c_2001 hkg.2) (by decide)) dX6_convex_30 ?_
      refine lv_icmp_ne (tgt := 51) hx hb dX6_convex_31 (by decide) (fun c_2002 => ?_) (fun c_2002 => ?_)
      · refine lv_iconst (v := 0) hx hb dX6_convex_51 (by decide) ?_
        refine lv_istore_n (lv' := [(3, .int (0 : Int32)), (2, .int ((iy + (1 : Int32)) - (iy + (1 : Int32)) / kg * kg)), (0, .ref o), (1, .int iy)]) hx hb dX6_convex_52 rfl hl (by decide) rfl (fun ls hl => ?_)
        exact lp_X6_convex_in l D cI cZ o kax kay kai kah kas kap kad kac kg kc ke ki kw ku kn kq kr kl kz kt km kf kh fx fy iy ((iy + (1 : Int32)) - (iy + (1 : Int32)) / kg * kg) (g_X6_convex_out kg kc ke ki kw ku kn kq kr kl kz kt km kf kh fx fy fuel (iy + 1)) hkg (kk_IL (b := 7) hI c_2001 hkg.2) (kk_remL (b := 7) hI c_2001 hkg.2) hX0 FIN (fun hK2 H locs ls hP hD hS hl => ih (iy + 1) H locs ls (kk_Iup hI c_2001) hK2 (hP.sub [0, 1, 2] rfl) (hD.sub [0, 1, 2] (by decide) rfl) hS (lv_sub hl [0, 1] rfl)) 9 (0 : Int32) _ _ _ (kk_Ist 9 hkg.1 (Int.lt_of_le_of_lt hkg.2 (by decide))) (by show FIN = (g_X6_convex_in kg kc ke ki kw ku kn kq kr kl kz kt km kf kh fx fy iy ((iy + (1 : Int32)) - (iy + (1 : Int32)) / kg * kg) (g_X6_convex_out kg kc ke ki kw ku kn kq kr kl kz kt km kf kh fx fy fuel (iy + 1)) 9 (0 : Int32)); rw [hF, g_X6_convex_out]; rw [if_neg c_2001]; rw [if_neg c_2002]; try rfl) (hP.sub [0, 1, 2] rfl) (hD.sub [0, 1, 2] (by decide) rfl) hS (lv_sub hl [2, 3, 1, 0] rfl)
      · refine lv_aload_n hx hb dX6_convex_34 rfl (lv_at hl 1 rfl) ?_
        refine va_get (D := D) hx hb hts hiX6 hown hK.1 hP 0 rfl rfl 3 (by decide) (hts (.fieldLink RX6 13 "FencePilotModel" "cornerY" "[I") (by decide +kernel)) (fun _ h9 => h9) rfl dX6_convex_35 ?_
        refine lv_iload_n hx hb dX6_convex_38 rfl (lv_at hl 2 rfl) ?_
        refine va_iald hx hb hK.1 hP 2 0 rfl rfl (kk_Iix hI c_2001 (Int.le_trans hkg.2 (by decide))) dX6_convex_39 ?_
        refine lv_aload_n hx hb dX6_convex_40 rfl (lv_at hl 1 rfl) ?_
        refine va_get (D := D) hx hb hts hiX6 hown hK.1 hP 0 rfl rfl 3 (by decide) (hts (.fieldLink RX6 13 "FencePilotModel" "cornerY" "[I") (by decide +kernel)) (fun _ h9 => h9) rfl dX6_convex_41 ?_
        refine lv_iload_n hx hb dX6_convex_44 rfl (lv_at hl 0 rfl) ?_
        refine va_iald hx hb hK.1 hP 2 0 rfl rfl (kk_Lix' (kk_remL (b := 7) hI c_2001 hkg.2) (by decide)) dX6_convex_45 ?_
        refine lv_icmp_ne (tgt := 51) hx hb dX6_convex_46 (by decide) (fun c_2003 => ?_) (fun c_2003 => ?_)
        · refine lv_iconst (v := 0) hx hb dX6_convex_51 (by decide) ?_
          refine lv_istore_n (lv' := [(3, .int (0 : Int32)), (2, .int ((iy + (1 : Int32)) - (iy + (1 : Int32)) / kg * kg)), (0, .ref o), (1, .int iy)]) hx hb dX6_convex_52 rfl hl (by decide) rfl (fun ls hl => ?_)
          exact lp_X6_convex_in l D cI cZ o kax kay kai kah kas kap kad kac kg kc ke ki kw ku kn kq kr kl kz kt km kf kh fx fy iy ((iy + (1 : Int32)) - (iy + (1 : Int32)) / kg * kg) (g_X6_convex_out kg kc ke ki kw ku kn kq kr kl kz kt km kf kh fx fy fuel (iy + 1)) hkg (kk_IL (b := 7) hI c_2001 hkg.2) (kk_remL (b := 7) hI c_2001 hkg.2) hX0 FIN (fun hK2 H locs ls hP hD hS hl => ih (iy + 1) H locs ls (kk_Iup hI c_2001) hK2 (hP.sub [0, 1, 2] rfl) (hD.sub [0, 1, 2] (by decide) rfl) hS (lv_sub hl [0, 1] rfl)) 9 (0 : Int32) _ _ _ (kk_Ist 9 hkg.1 (Int.lt_of_le_of_lt hkg.2 (by decide))) (by show FIN = (g_X6_convex_in kg kc ke ki kw ku kn kq kr kl kz kt km kf kh fx fy iy ((iy + (1 : Int32)) - (iy + (1 : Int32)) / kg * kg) (g_X6_convex_out kg kc ke ki kw ku kn kq kr kl kz kt km kf kh fx fy fuel (iy + 1)) 9 (0 : Int32)); rw [hF, g_X6_convex_out]; rw [if_neg c_2001]; rw [if_pos c_2002]; rw [if_neg c_2003]; try rfl) (hP.sub [0, 1, 2] rfl) (hD.sub [0, 1, 2] (by decide) rfl) hS (lv_sub hl [2, 3, 1, 0] rfl)
        · refine lv_iconst (v := 0) hx hb dX6_convex_49 (by decide) ?_
          exact kk_rz () hx hb hr hlk dX6_convex_50 hS (hP.sub [0, 1, 2] rfl) (hD.sub [0, 1, 2] (by decide) rfl) rfl (by show (0 : Int32) = FIN; rw [hF, g_X6_convex_out]; rw [if_neg c_2001]; rw [if_pos c_2002]; rw [if_pos c_2003]; try rfl)
set_option maxHeartbeats 4000000 in
set_option maxRecDepth 100000 in
theorem k_X6_convex (l : Launch) (D : va_G) (cI cZ : ClassId) (o : Nat) (kax : Nat) (kay : Nat) (kai : Nat) (kah : Nat) (kas : Nat) (kap : Nat) (kad : Nat) (kac : Nat) (sz : Nat) (kg : Int32) (kc : Int32) (ke : Int32) (ki : Int32) (kw : Int32) (ku : Int32) (kn : Int32) (kq : Int32) (kr : Int32) (kl : Int32) (kz : Int32) (kt : Int32) (km : Int32) (kf : Int32) (kh : Int32) (fx : Nat → Int32) (fy : Nat → Int32)  (hkg : kk_L kg 8) : kk_Mi l D cI cZ yX6_convex wsX6_convex ({ frames := 1, cells := 0, slots := 0, locals := 28 } : Room) [.ref o] sz [(o, .inr (6, [.int kg, .int kc, .ref kax, .ref kay, .int ke, .int ki, .ref kai, .int kw, .int ku, .int kn, .int kq, .int kr, .ref kah, .ref kas, .ref kap, .ref kad, .int kl, .int kz, .int kt, .int km, .int kf, .int kh, .ref kac])), (kax, .inl (cI, 16, .inl fx)), (kay, .inl (cI, 16, .inl fy))] (fun (r : Int32) (_ : Unit) => r = f_X6_convex kg kc ke ki kw ku kn kq kr kl kz kt km kf kh fx fy) (fun _ => [(o, .inr (6, [.int kg, .int kc, .ref kax, .ref kay, .int ke, .int ki, .ref kai, .int kw, .int ku, .int kn, .int kq, .int kr, .ref kah, .ref kas, .ref kap, .ref kad, .int kl, .int kz, .int kt, .int km, .int kf, .int kh, .ref kac])), (kax, .inl (cI, 16, .inl fx)), (kay, .inl (cI, 16, .inl fy))]) 0 0 := by
  refine kk_enti (cc := cX6_convex) (maxL := 4) (ret := (some .boolean)) (by decide +kernel) rfl (Nat.le_of_ble_eq_true rfl) (fun p e s m args below meth c A ls hX hP hD hS hl => ?_)
  have hX0 := hX
  obtain ⟨hx, hb, hml, hown, hts, hr, hlk, hnm, hK, hA⟩ := hX
  have hown : s.vm.findClass RX6 = some m.cls := hown
  have hiX6 : ∀ w ∈ wsX60, w ∈ wsX6_convex := by decide +kernel
  have hl : lv_has ls 4 [(0, .ref o)] := hl
  refine lv_iconst (v := 0) hx hb dX6_convex_0 (by decide) ?_
  refine lv_istore_n (lv' := [(1, .int (0 : Int32)), (0, .ref o)]) hx hb dX6_convex_1 rfl hl (by decide) rfl (fun ls hl => ?_)
  exact lp_X6_convex_out l D cI cZ o kax kay kai kah kas kap kad kac kg kc ke ki kw ku kn kq kr kl kz kt km kf kh fx fy hkg hX0 (f_X6_convex kg kc ke ki kw ku kn kq kr kl kz kt km kf kh fx fy) 9 (0 : Int32) _ _ _ (kk_Ist 9 hkg.1 (Int.lt_of_le_of_lt hkg.2 (by decide))) (by show f_X6_convex kg kc ke ki kw ku kn kq kr kl kz kt km kf kh fx fy = (g_X6_convex_out kg kc ke ki kw ku kn kq kr kl kz kt km kf kh fx fy 9 (0 : Int32)); unfold f_X6_convex; rfl) (hP.sub [0, 1, 2] rfl) (hD.sub [0, 1, 2] (by decide) rfl) hS (lv_sub hl [1, 0] rfl)
def f_X6_corner (kg : Int32) (kc : Int32) (ke : Int32) (ki : Int32) (kw : Int32) (ku : Int32) (kn : Int32) (kq : Int32) (kr : Int32) (kl : Int32) (kz : Int32) (kt : Int32) (km : Int32) (kf : Int32) (kh : Int32) (fx : Nat → Int32) (fy : Nat → Int32) (x : Int32) (y : Int32) : Int32 × (Nat → Int32) × (Nat → Int32) × Int32 := (if kg = (8 : Int32) then ((0 : Int32), fx, fy, kg) else (if (f_X6_within x (-10000 : Int32) (10000 : Int32)) = (0 : Int32) then ((0 : Int32), fx, fy, kg) else (if (f_X6_within y (-10000 : Int32) (10000 : Int32)) = (0 : Int32) then ((0 : Int32), fx, fy, kg) else ((1 : Int32), (upd fx kg.toNatClampNeg x), (upd fy kg.toNatClampNeg y), (kg + (1 : Int32))))))
set_option maxHeartbeats 4000000 in
set_option maxRecDepth 100000 in
theorem k_X6_corner (l : Launch) (D : va_G) (cI cZ : ClassId) (o : Nat) (kax : Nat) (kay : Nat) (kai : Nat) (kah : Nat) (kas : Nat) (kap : Nat) (kad : Nat) (kac : Nat) (sz : Nat) (kg : Int32) (kc : Int32) (ke : Int32) (ki : Int32) (kw : Int32) (ku : Int32) (kn : Int32) (kq : Int32) (kr : Int32) (kl : Int32) (kz : Int32) (kt : Int32) (km : Int32) (kf : Int32) (kh : Int32) (fx : Nat → Int32) (fy : Nat → Int32) (x : Int32) (y : Int32) (hkg : kk_L kg 8) : kk_Mi l D cI cZ yX6_corner wsX6_corner ({ frames := 1, cells := 0, slots := 0, locals := 22 } : Room) [.ref o, .int x, .int y] sz [(o, .inr (6, [.int kg, .int kc, .ref kax, .ref kay, .int ke, .int ki, .ref kai, .int kw, .int ku, .int kn, .int kq, .int kr, .ref kah, .ref kas, .ref kap, .ref kad, .int kl, .int kz, .int kt, .int km, .int kf, .int kh, .ref kac])), (kax, .inl (cI, 16, .inl fx)), (kay, .inl (cI, 16, .inl fy))] (fun (r : Int32) (u : (Nat → Int32) × (Nat → Int32) × Int32) => (r, u) = f_X6_corner kg kc ke ki kw ku kn kq kr kl kz kt km kf kh fx fy x y) (fun u => [(o, .inr (6, [.int u.2.2, .int kc, .ref kax, .ref kay, .int ke, .int ki, .ref kai, .int kw, .int ku, .int kn, .int kq, .int kr, .ref kah, .ref kas, .ref kap, .ref kad, .int kl, .int kz, .int kt, .int km, .int kf, .int kh, .ref kac])), (kax, .inl (cI, 16, .inl u.1)), (kay, .inl (cI, 16, .inl u.2.1))]) 0 0 := by
  refine kk_enti (cc := cX6_corner) (maxL := 3) (ret := (some .boolean)) (by decide +kernel) rfl (Nat.le_of_ble_eq_true rfl) (fun p e s m args below meth c A ls hX hP hD hS hl => ?_)
  obtain ⟨hx, hb, hml, hown, hts, hr, hlk, hnm, hK, hA⟩ := hX
  have hown : s.vm.findClass RX6 = some m.cls := hown
  have hiX6 : ∀ w ∈ wsX60, w ∈ wsX6_corner := by decide +kernel
  have hl : lv_has ls 3 [(0, .ref o), (1, .int x), (2, .int y)] := hl
  refine lv_aload_n hx hb dX6_corner_0 rfl (lv_at hl 0 rfl) ?_
  refine va_get (D := D) hx hb hts hiX6 hown hK.1 hP 0 rfl rfl 0 (by decide) (hts (.fieldLink RX6 47 "FencePilotModel" "given" "I") (by decide +kernel)) (fun _ h9 => h9) rfl dX6_corner_1 ?_
  refine lv_bipush (v := 8) hx hb dX6_corner_4 (by decide) ?_
  refine lv_icmp_eq (tgt := 35) hx hb dX6_corner_6 (by decide) (fun c_1 => ?_) (fun c_1 => ?_)
  · refine lv_iconst (v := 0) hx hb dX6_corner_35 (by decide) ?_
    exact kk_rz (fx, fy, kg) hx hb hr hlk dX6_corner_36 hS (hP.sub [0, 1, 2] rfl) (hD.sub [0, 1, 2] (by decide) rfl) rfl (by show ((0 : Int32), fx, fy, kg) = f_X6_corner kg kc ke ki kw ku kn kq kr kl kz kt km kf kh fx fy x y; unfold f_X6_corner; rw [if_pos c_1]; try rfl)
  · refine lv_iload_n hx hb dX6_corner_9 rfl (lv_at hl 1 rfl) ?_
    refine lv_sipush (v := -10000) hx hb dX6_corner_10 (by decide) ?_
    refine lv_sipush (v := 10000) hx hb dX6_corner_13 (by decide) ?_
    refine kk_cSi (wc := []) (wr := [(o, .inr (6, [.int kg, .int kc, .ref kax, .ref kay, .int ke, .int ki, .ref kai, .int kw, .int ku, .int kn, .int kq, .int kr, .ref kah, .ref kas, .ref kap, .ref kad, .int kl, .int kz, .int kt, .int km, .int kf, .int kh, .ref kac])), (kax, .inl (cI, 16, .inl fx)), (kay, .inl (cI, 16, .inl fy))]) ⟨hx, hb, hml, hown, hts⟩ hK hP hD hS hA [] [0, 1, 2] (k_X6_within l D cI cZ  s.heap.size x (-10000 : Int32) (10000 : Int32)) (va_cwS 3 hts gX6_corner_X6_within rfl rfl rfl (by decide +kernel) ⟨(Nat.le_of_ble_eq_true rfl), (Nat.le_of_ble_eq_true rfl)⟩) rfl rfl (by decide) (by decide) (by decide) rfl hl.1 rfl (Nat.le_of_ble_eq_true rfl) dX6_corner_16 ⟨(Nat.le_of_ble_eq_true rfl), (Nat.le_of_ble_eq_true rfl)⟩ (fun r_2 u H locs hw_3 hP hD hS => ?_)
    have hw_3 : (f_X6_within x (-10000 : Int32) (10000 : Int32)) = r_2 := (hw_3 : r_2 = (f_X6_within x (-10000 : Int32) (10000 : Int32))).symm
    subst hw_3
    have hP : va_P D vwCl [(o, .inr (6, [.int kg, .int kc, .ref kax, .ref kay, .int ke, .int ki, .ref kai, .int kw, .int ku, .int kn, .int kq, .int kr, .ref kah, .ref kas, .ref kap, .ref kad, .int kl, .int kz, .int kt, .int km, .int kf, .int kh, .ref kac])), (kax, .inl (cI, 16, .inl fx)), (kay, .inl (cI, 16, .inl fy))] H := hP
    have hD : va_D A [(o, .inr (6, [.int kg, .int kc, .ref kax, .ref kay, .int ke, .int ki, .ref kai, .int kw, .int ku, .int kn, .int kq, .int kr, .ref kah, .ref kas, .ref kap, .ref kad, .int kl, .int kz, .int kt, .int km, .int kf, .int kh, .ref kac])), (kax, .inl (cI, 16, .inl fx)), (kay, .inl (cI, 16, .inl fy))] := hD
    refine lv_if_eq (tgt := 35) hx hb dX6_corner_19 (by decide) (fun c_4 => ?_) (fun c_4 => ?_)
    · refine lv_iconst (v := 0) hx hb dX6_corner_35 (by decide) ?_
      exact kk_rz (fx, fy, kg) hx hb hr hlk dX6_corner_36 hS (hP.sub [0, 1, 2] rfl) (hD.sub [0, 1, 2] (by decide) rfl) rfl (by show ((0 : Int32), fx, fy, kg) = f_X6_corner kg kc ke ki kw ku kn kq kr kl kz kt km kf kh fx fy x y; unfold f_X6_corner; rw [if_neg c_1]; rw [if_pos c_4]; try rfl)
    · refine lv_iload_n hx hb dX6_corner_22 rfl (lv_at hl 2 rfl) ?_
      refine lv_sipush (v := -10000) hx hb dX6_corner_23 (by decide) ?_
      refine lv_sipush (v := 10000) hx hb dX6_corner_26 (by decide) ?_
      refine kk_cSi (wc := []) (wr := [(o, .inr (6, [.int kg, .int kc, .ref kax, .ref kay, .int ke, .int ki, .ref kai, .int kw, .int ku, .int kn, .int kq, .int kr, .ref kah, .ref kas, .ref kap, .ref kad, .int kl, .int kz, .int kt, .int km, .int kf, .int kh, .ref kac])), (kax, .inl (cI, 16, .inl fx)), (kay, .inl (cI, 16, .inl fy))]) ⟨hx, hb, hml, hown, hts⟩ hK hP hD hS hA [] [0, 1, 2] (k_X6_within l D cI cZ  H.size y (-10000 : Int32) (10000 : Int32)) (va_cwS 3 hts gX6_corner_X6_within rfl rfl rfl (by decide +kernel) ⟨(Nat.le_of_ble_eq_true rfl), (Nat.le_of_ble_eq_true rfl)⟩) rfl rfl (by decide) (by decide) (by decide) rfl hl.1 rfl (Nat.le_of_ble_eq_true rfl) dX6_corner_29 ⟨(Nat.le_of_ble_eq_true rfl), (Nat.le_of_ble_eq_true rfl)⟩ (fun r_5 u H locs hw_6 hP hD hS => ?_)
      have hw_6 : (f_X6_within y (-10000 : Int32) (10000 : Int32)) = r_5 := (hw_6 : r_5 = (f_X6_within y (-10000 : Int32) (10000 : Int32))).symm
      subst hw_6
      have hP : va_P D vwCl [(o, .inr (6, [.int kg, .int kc, .ref kax, .ref kay, .int ke, .int ki, .ref kai, .int kw, .int ku, .int kn, .int kq, .int kr, .ref kah, .ref kas, .ref kap, .ref kad, .int kl, .int kz, .int kt, .int km, .int kf, .int kh, .ref kac])), (kax, .inl (cI, 16, .inl fx)), (kay, .inl (cI, 16, .inl fy))] H := hP
      have hD : va_D A [(o, .inr (6, [.int kg, .int kc, .ref kax, .ref kay, .int ke, .int ki, .ref kai, .int kw, .int ku, .int kn, .int kq, .int kr, .ref kah, .ref kas, .ref kap, .ref kad, .int kl, .int kz, .int kt, .int km, .int kf, .int kh, .ref kac])), (kax, .inl (cI, 16, .inl fx)), (kay, .inl (cI, 16, .inl fy))] := hD
      refine lv_if_ne (tgt := 37) hx hb dX6_corner_32 (by decide) (fun c_7 => ?_) (fun c_7 => ?_)
      · refine lv_aload_n hx hb dX6_corner_37 rfl (lv_at hl 0 rfl) ?_
        refine va_get (D := D) hx hb hts hiX6 hown hK.1 hP 0 rfl rfl 2 (by decide) (hts (.fieldLink RX6 7 "FencePilotModel" "cornerX" "[I") (by decide +kernel)) (fun _ h9 => h9) rfl dX6_corner_38 ?_
        refine lv_aload_n hx hb dX6_corner_41 rfl (lv_at hl 0 rfl) ?_
        refine va_get (D := D) hx hb hts hiX6 hown hK.1 hP 0 rfl rfl 0 (by decide) (hts (.fieldLink RX6 47 "FencePilotModel" "given" "I") (by decide +kernel)) (fun _ h9 => h9) rfl dX6_corner_42 ?_
        refine lv_iload_n hx hb dX6_corner_45 rfl (lv_at hl 1 rfl) ?_
        refine va_iast hx hb hK.1 hP hD hS 1 0 rfl rfl (kk_Lix' hkg (by decide)) dX6_corner_46 (fun H locs hP hD hS => ?_)
        have hP : va_P D vwCl [(o, .inr (6, [.int kg, .int kc, .ref kax, .ref kay, .int ke, .int ki, .ref kai, .int kw, .int ku, .int kn, .int kq, .int kr, .ref kah, .ref kas, .ref kap, .ref kad, .int kl, .int kz, .int kt, .int km, .int kf, .int kh, .ref kac])), (kax, .inl (cI, 16, .inl (upd fx kg.toNatClampNeg x))), (kay, .inl (cI, 16, .inl fy))] H := hP
        have hD : va_D A [(o, .inr (6, [.int kg, .int kc, .ref kax, .ref kay, .int ke, .int ki, .ref kai, .int kw, .int ku, .int kn, .int kq, .int kr, .ref kah, .ref kas, .ref kap, .ref kad, .int kl, .int kz, .int kt, .int km, .int kf, .int kh, .ref kac])), (kax, .inl (cI, 16, .inl (upd fx kg.toNatClampNeg x))), (kay, .inl (cI, 16, .inl fy))] := hD
        refine lv_aload_n hx hb dX6_corner_47 rfl (lv_at hl 0 rfl) ?_
        refine va_get (D := D) hx hb hts hiX6 hown hK.1 hP 0 rfl rfl 3 (by decide) (hts (.fieldLink RX6 13 "FencePilotModel" "cornerY" "[I") (by decide +kernel)) (fun _ h9 => h9) rfl dX6_corner_48 ?_
        refine lv_aload_n hx hb dX6_corner_51 rfl (lv_at hl 0 rfl) ?_
        refine va_get (D := D) hx hb hts hiX6 hown hK.1 hP 0 rfl rfl 0 (by decide) (hts (.fieldLink RX6 47 "FencePilotModel" "given" "I") (by decide +kernel)) (fun _ h9 => h9) rfl dX6_corner_52 ?_
        refine lv_iload_n hx hb dX6_corner_55 rfl (lv_at hl 2 rfl) ?_
        refine va_iast hx hb hK.1 hP hD hS 2 0 rfl rfl (kk_Lix' hkg (by decide)) dX6_corner_56 (fun H locs hP hD hS => ?_)
        have hP : va_P D vwCl [(o, .inr (6, [.int kg, .int kc, .ref kax, .ref kay, .int ke, .int ki, .ref kai, .int kw, .int ku, .int kn, .int kq, .int kr, .ref kah, .ref kas, .ref kap, .ref kad, .int kl, .int kz, .int kt, .int km, .int kf, .int kh, .ref kac])), (kax, .inl (cI, 16, .inl (upd fx kg.toNatClampNeg x))), (kay, .inl (cI, 16, .inl (upd fy kg.toNatClampNeg y)))] H := hP
        have hD : va_D A [(o, .inr (6, [.int kg, .int kc, .ref kax, .ref kay, .int ke, .int ki, .ref kai, .int kw, .int ku, .int kn, .int kq, .int kr, .ref kah, .ref kas, .ref kap, .ref kad, .int kl, .int kz, .int kt, .int km, .int kf, .int kh, .ref kac])), (kax, .inl (cI, 16, .inl (upd fx kg.toNatClampNeg x))), (kay, .inl (cI, 16, .inl (upd fy kg.toNatClampNeg y)))] := hD
        refine lv_aload_n hx hb dX6_corner_57 rfl (lv_at hl 0 rfl) ?_
        refine lv_dup hx hb dX6_corner_58 rfl ?_
        refine va_get (D := D) hx hb hts hiX6 hown hK.1 hP 0 rfl rfl 0 (by decide) (hts (.fieldLink RX6 47 "FencePilotModel" "given" "I") (by decide +kernel)) (fun _ h9 => h9) rfl dX6_corner_59 ?_
        refine lv_iconst (v := 1) hx hb dX6_corner_62 (by decide) ?_
        refine lv_iadd hx hb dX6_corner_63 ?_
        refine va_put (D := D) (ci := 6) (v := .int (kg + (1 : Int32))) (ty := .int) (C := RX6) (T := TX6) (N := 23) hx hb hts hiX6 tyX6 tyX6_ok nmX6 hown hK.1 hP hD hS 0 rfl rfl 0 (by decide) (hts (.fieldLink RX6 47 "FencePilotModel" "given" "I") (by decide +kernel)) (fun _ h9 => h9) rfl (by decide +kernel) rfl rfl (Nat.le_of_ble_eq_true rfl) dX6_corner_64 (fun H locs hP hD hS => ?_)
        have hP : va_P D vwCl [(o, .inr (6, [.int (kg + (1 : Int32)), .int kc, .ref kax, .ref kay, .int ke, .int ki, .ref kai, .int kw, .int ku, .int kn, .int kq, .int kr, .ref kah, .ref kas, .ref kap, .ref kad, .int kl, .int kz, .int kt, .int km, .int kf, .int kh, .ref kac])), (kax, .inl (cI, 16, .inl (upd fx kg.toNatClampNeg x))), (kay, .inl (cI, 16, .inl (upd fy kg.toNatClampNeg y)))] H := hP
        have hD : va_D A [(o, .inr (6, [.int (kg + (1 : Int32)), .int kc, .ref kax, .ref kay, .int ke, .int ki, .ref kai, .int kw, .int ku, .int kn, .int kq, .int kr, .ref kah, .ref kas, .ref kap, .ref kad, .int kl, .int kz, .int kt, .int km, .int kf, .int kh, .ref kac])), (kax, .inl (cI, 16, .inl (upd fx kg.toNatClampNeg x))), (kay, .inl (cI, 16, .inl (upd fy kg.toNatClampNeg y)))] := hD
        refine lv_iconst (v := 1) hx hb dX6_corner_67 (by decide) ?_
        exact kk_rz ((upd fx kg.toNatClampNeg x), (upd fy kg.toNatClampNeg y), (kg + (1 : Int32))) hx hb hr hlk dX6_corner_68 hS (hP.sub [0, 1, 2] rfl) (hD.sub [0, 1, 2] (by decide) rfl) rfl (by show ((1 : Int32), (upd fx kg.toNatClampNeg x), (upd fy kg.toNatClampNeg y), (kg + (1 : Int32))) = f_X6_corner kg kc ke ki kw ku kn kq kr kl kz kt km kf kh fx fy x y; unfold f_X6_corner; rw [if_neg c_1]; rw [if_neg c_4]; rw [if_neg c_7]; try rfl)
      · refine lv_iconst (v := 0) hx hb dX6_corner_35 (by decide) ?_
        exact kk_rz (fx, fy, kg) hx hb hr hlk dX6_corner_36 hS (hP.sub [0, 1, 2] rfl) (hD.sub [0, 1, 2] (by decide) rfl) rfl (by show ((0 : Int32), fx, fy, kg) = f_X6_corner kg kc ke ki kw ku kn kq kr kl kz kt km kf kh fx fy x y; unfold f_X6_corner; rw [if_neg c_1]; rw [if_neg c_4]; rw [if_pos c_7]; try rfl)
def f_X6_erase (kg : Int32) (kc : Int32) (ke : Int32) (ki : Int32) (kw : Int32) (ku : Int32) (kn : Int32) (kq : Int32) (kr : Int32) (kl : Int32) (kz : Int32) (kt : Int32) (km : Int32) (kf : Int32) (kh : Int32) : Int32 := (0 : Int32)
set_option maxHeartbeats 4000000 in
set_option maxRecDepth 100000 in
theorem k_X6_erase (l : Launch) (D : va_G) (cI cZ : ClassId) (o : Nat) (kax : Nat) (kay : Nat) (kai : Nat) (kah : Nat) (kas : Nat) (kap : Nat) (kad : Nat) (kac : Nat) (sz : Nat) (kg : Int32) (kc : Int32) (ke : Int32) (ki : Int32) (kw : Int32) (ku : Int32) (kn : Int32) (kq : Int32) (kr : Int32) (kl : Int32) (kz : Int32) (kt : Int32) (km : Int32) (kf : Int32) (kh : Int32)   : kk_Mv l D cI cZ yX6_erase wsX6_erase ({ frames := 0, cells := 0, slots := 0, locals := 0 } : Room) [.ref o] sz [(o, .inr (6, [.int kg, .int kc, .ref kax, .ref kay, .int ke, .int ki, .ref kai, .int kw, .int ku, .int kn, .int kq, .int kr, .ref kah, .ref kas, .ref kap, .ref kad, .int kl, .int kz, .int kt, .int km, .int kf, .int kh, .ref kac]))] (fun (u : Int32) => u = f_X6_erase kg kc ke ki kw ku kn kq kr kl kz kt km kf kh) (fun u => [(o, .inr (6, [.int u, .int kc, .ref kax, .ref kay, .int ke, .int ki, .ref kai, .int kw, .int ku, .int kn, .int kq, .int kr, .ref kah, .ref kas, .ref kap, .ref kad, .int kl, .int kz, .int kt, .int km, .int kf, .int kh, .ref kac]))]) 0 0 := by
  refine kk_entv (cc := cX6_erase) (maxL := 1) (ret := none) (by decide +kernel) rfl (Nat.le_of_ble_eq_true rfl) (fun p e s m args below meth c A ls hX hP hD hS hl => ?_)
  obtain ⟨hx, hb, hml, hown, hts, hr, hlk, hnm, hK, hA⟩ := hX
  have hown : s.vm.findClass RX6 = some m.cls := hown
  have hiX6 : ∀ w ∈ wsX60, w ∈ wsX6_erase := by decide +kernel
  have hl : lv_has ls 1 [(0, .ref o)] := hl
  refine lv_aload_n hx hb dX6_erase_0 rfl (lv_at hl 0 rfl) ?_
  refine lv_iconst (v := 0) hx hb dX6_erase_1 (by decide) ?_
  refine va_put (D := D) (ci := 6) (v := .int (0 : Int32)) (ty := .int) (C := RX6) (T := TX6) (N := 23) hx hb hts hiX6 tyX6 tyX6_ok nmX6 hown hK.1 hP hD hS 0 rfl rfl 0 (by decide) (hts (.fieldLink RX6 47 "FencePilotModel" "given" "I") (by decide +kernel)) (fun _ h9 => h9) rfl (by decide +kernel) rfl rfl (Nat.le_of_ble_eq_true rfl) dX6_erase_2 (fun H locs hP hD hS => ?_)
  have hP : va_P D vwCl [(o, .inr (6, [.int (0 : Int32), .int kc, .ref kax, .ref kay, .int ke, .int ki, .ref kai, .int kw, .int ku, .int kn, .int kq, .int kr, .ref kah, .ref kas, .ref kap, .ref kad, .int kl, .int kz, .int kt, .int km, .int kf, .int kh, .ref kac]))] H := hP
  have hD : va_D A [(o, .inr (6, [.int (0 : Int32), .int kc, .ref kax, .ref kay, .int ke, .int ki, .ref kai, .int kw, .int ku, .int kn, .int kq, .int kr, .ref kah, .ref kas, .ref kap, .ref kad, .int kl, .int kz, .int kt, .int km, .int kf, .int kh, .ref kac]))] := hD
  exact kk_rv (0 : Int32) hx hb hr hlk dX6_erase_5 hS (hP.sub [0] rfl) (hD.sub [0] (by decide) rfl) (by show (0 : Int32) = f_X6_erase kg kc ke ki kw ku kn kq kr kl kz kt km kf kh; unfold f_X6_erase; rfl)
def g_X6_fence_lp (kg : Int32) (kc : Int32) (ke : Int32) (ki : Int32) (kw : Int32) (ku : Int32) (kn : Int32) (kq : Int32) (kr : Int32) (kl : Int32) (kz : Int32) (kt : Int32) (km : Int32) (kf : Int32) (kh : Int32) (fx : Nat → Int32) (fy : Nat → Int32) (cl : Int32) : Nat → Int32 → (Nat → Int32) → (Nat → Int32) → Int32 × (Nat → Int32) × (Nat → Int32) × Int32 × Int32 × Int32
  | 0, _, _, _ => (0, (fun _ => 0), (fun _ => 0), 0, 0, 0)
  | fuel + 1, ix, hx2, hy2 => (if kg ≤ ix then ((0 : Int32), hx2, hy2, (0 : Int32), kg, cl) else (g_X6_fence_lp kg kc ke ki kw ku kn kq kr kl kz kt km kf kh fx fy cl fuel (ix + 1) (upd hx2 ((8 : Int32) + ix).toNatClampNeg (hx2 ix.toNatClampNeg)) (upd hy2 ((8 : Int32) + ix).toNatClampNeg (hy2 ix.toNatClampNeg))))
def f_X6_fence (kg : Int32) (kc : Int32) (ke : Int32) (ki : Int32) (kw : Int32) (ku : Int32) (kn : Int32) (kq : Int32) (kr : Int32) (kl : Int32) (kz : Int32) (kt : Int32) (km : Int32) (kf : Int32) (kh : Int32) (fx : Nat → Int32) (fy : Nat → Int32) (cl : Int32) : Int32 × (Nat → Int32) × (Nat → Int32) × Int32 × Int32 × Int32 := (if km = (0 : Int32) then (if (3 : Int32) ≤ kg then (if (f_X6_convex kg kc ke ki kw ku kn kq kr kl kz kt km kf kh fx fy) = (0 : Int32) then ((-3 : Int32), fx, fy, kg, kc, ke) else (if (f_X6_clearOfAll kg kc ke ki kw ku kn kq kr kl kz kt km kf kh fx fy (0 : Int32) kg (0 : Int32) (0 : Int32) (1000 : Int64)) = (0 : Int32) then ((-4 : Int32), fx, fy, kg, kc, ke) else (if (f_X6_within cl (1500 : Int32) (10000 : Int32)) = (0 : Int32) then ((-5 : Int32), fx, fy, kg, kc, ke) else (g_X6_fence_lp kg kc ke ki kw ku kn kq kr kl kz kt km kf kh fx fy cl 9 (0 : Int32) fx fy)))) else ((-2 : Int32), fx, fy, kg, kc, ke)) else ((-1 : Int32), fx, fy, kg, kc, ke))
set_option maxHeartbeats 4000000 in
set_option maxRecDepth 100000 in
theorem lp_X6_fence_lp (l : Launch) (D : va_G) (cI cZ : ClassId) (o : Nat) (kax : Nat) (kay : Nat) (kai : Nat) (kah : Nat) (kas : Nat) (kap : Nat) (kad : Nat) (kac : Nat) (kg : Int32) (kc : Int32) (ke : Int32) (ki : Int32) (kw : Int32) (ku : Int32) (kn : Int32) (kq : Int32) (kr : Int32) (kl : Int32) (kz : Int32) (kt : Int32) (km : Int32) (kf : Int32) (kh : Int32) (fx : Nat → Int32) (fy : Nat → Int32) (cl : Int32) (hkg : kk_L kg 8)  {p : Program} {e : Env} {s : State} {m : MethodId} {args : Array Value} {below : List Frame} {meth : Method} {c : Code} {A : Nat → Prop} (hX : kk_X p s m args meth c cX6_fence 3 (some .int) yX6_fence wsX6_fence A D cI cZ) (FIN : Int32 × (Nat → Int32) × (Nat → Int32) × Int32 × Int32 × Int32)  :
    ∀ (fuel : Nat) (ix : Int32) (hx2 : Nat → Int32) (hy2 : Nat → Int32) (H : Heap) (locs : List Loc) (ls : Array Slot), kk_I fuel ix kg → FIN = g_X6_fence_lp kg kc ke ki kw ku kn kq kr kl kz kt km kf kh fx fy cl fuel ix hx2 hy2 → va_P D vwCl [(o, .inr (6, [.int kg, .int kc, .ref kax, .ref kay, .int ke, .int ki, .ref kai, .int kw, .int ku, .int kn, .int kq, .int kr, .ref kah, .ref kas, .ref kap, .ref kad, .int kl, .int kz, .int kt, .int km, .int kf, .int kh, .ref kac])), (kax, .inl (cI, 16, .inl hx2)), (kay, .inl (cI, 16, .inl hy2))] H → va_D A [(o, .inr (6, [.int kg, .int kc, .ref kax, .ref kay, .int ke, .int ki, .ref kai, .int kw, .int ku, .int kn, .int kq, .int kr, .ref kah, .ref kas, .ref kap, .ref kad, .int kl, .int kz, .int kt, .int km, .int kf, .int kh, .ref kac])), (kax, .inl (cI, 16, .inl hx2)), (kay, .inl (cI, 16, .inl hy2))] → va_S A s.heap H locs → lv_has ls 3 [(0, .ref o), (1, .int cl), (2, .int ix)] → W p l e ({ frames := 3, cells := 0, slots := 0, locals := 87 } : Room) s m args below meth c H locs 0 0 (MQ below (va_Qi (fun (r : Int32) (u : (Nat → Int32) × (Nat → Int32) × Int32 × Int32 × Int32) => (r, u) = FIN) (fun u t => kk_B D A [(o, .inr (6, [.int u.2.2.1, .int u.2.2.2.1, .ref kax, .ref kay, .int u.2.2.2.2, .int ki, .ref kai, .int kw, .int ku, .int kn, .int kq, .int kr, .ref kah, .ref kas, .ref kap, .ref kad, .int kl, .int kz, .int kt, .int km, .int kf, .int kh, .ref kac])), (kax, .inl (cI, 16, .inl u.1)), (kay, .inl (cI, 16, .inl u.2.1))] t) A) args s 0 0 A) (F0 m 68 ls []) := by
  have hX0 := hX
  obtain ⟨hx, hb, hml, hown, hts, hr, hlk, hnm, hK, hA⟩ := hX
  have hown : s.vm.findClass RX6 = some m.cls := hown
  have hiX6 : ∀ w ∈ wsX60, w ∈ wsX6_fence := by decide +kernel
  intro fuel
  induction fuel with
  | zero =>
    intro ix hx2 hy2 H locs ls hI
    exact absurd hI kk_I0
  | succ fuel ih =>
    intro ix hx2 hy2 H locs ls hI hF hP hD hS hl
    refine lv_iload_n hx hb dX6_fence_68 rfl (lv_at hl 2 rfl) ?_
    refine lv_aload_n hx hb dX6_fence_69 rfl (lv_at hl 0 rfl) ?_
    refine va_get (D := D) hx hb hts hiX6 hown hK.1 hP 0 rfl rfl 0 (by decide) (hts (.fieldLink RX6 47 "FencePilotModel" "given" "I") (by decide +kernel)) (fun _ h9 => h9) rfl dX6_fence_70 ?_
    refine lv_icmp_ge (tgt := 112) hx hb dX6_fence_73 (by decide) (fun c_1001 => ?_) (fun c_1001 => ?_)
    · refine lv_aload_n hx hb dX6_fence_112 rfl (lv_at hl 0 rfl) ?_
      refine lv_aload_n hx hb dX6_fence_113 rfl (lv_at hl 0 rfl) ?_
      refine va_get (D := D) hx hb hts hiX6 hown hK.1 hP 0 rfl rfl 0 (by decide) (hts (.fieldLink RX6 47 "FencePilotModel" "given" "I") (by decide +kernel)) (fun _ h9 => h9) rfl dX6_fence_114 ?_
      refine va_put (D := D) (ci := 6) (v := .int kg) (ty := .int) (C := RX6) (T := TX6) (N := 23) hx hb hts hiX6 tyX6 tyX6_ok nmX6 hown hK.1 hP hD hS 0 rfl rfl 1 (by decide) (hts (.fieldLink RX6 50 "FencePilotModel" "corners" "I") (by decide +kernel)) (fun _ h9 => h9) rfl (by decide +kernel) rfl rfl (Nat.le_of_ble_eq_true rfl) dX6_fence_117 (fun H locs hP hD hS => ?_)
      have hP : va_P D vwCl [(o, .inr (6, [.int kg, .int kg, .ref kax, .ref kay, .int ke, .int ki, .ref kai, .int kw, .int ku, .int kn, .int kq, .int kr, .ref kah, .ref kas, .ref kap, .ref kad, .int kl, .int kz, .int kt, .int km, .int kf, .int kh, .ref kac])), (kax, .inl (cI, 16, .inl hx2)), (kay, .inl (cI, 16, .inl hy2))] H := hP
      have hD : va_D A [(o, .inr (6, [.int kg, .int kg, .ref kax, .ref kay, .int ke, .int ki, .ref kai, .int kw, .int ku, .int kn, .int kq, .int kr, .ref kah, .ref kas, .ref kap, .ref kad, .int kl, .int kz, .int kt, .int km, .int kf, .int kh, .ref kac])), (kax, .inl (cI, 16, .inl hx2)), (kay, .inl (cI, 16, .inl hy2))] := hD
      refine lv_aload_n hx hb dX6_fence_120 rfl (lv_at hl 0 rfl) ?_
      refine lv_iconst (v := 0) hx hb dX6_fence_121 (by decide) ?_
      refine va_put (D := D) (ci := 6) (v := .int (0 : Int32)) (ty := .int) (C := RX6) (T := TX6) (N := 23) hx hb hts hiX6 tyX6 tyX6_ok nmX6 hown hK.1 hP hD hS 0 rfl rfl 0 (by decide) (hts (.fieldLink RX6 47 "FencePilotModel" "given" "I") (by decide +kernel)) (fun _ h9 => h9) rfl (by decide +kernel) rfl rfl (Nat.le_of_ble_eq_true rfl) dX6_fence_122 (fun H locs hP hD hS => ?_)
      have hP : va_P D vwCl [(o, .inr (6, [.int (0 : Int32), .int kg, .ref kax, .ref kay, .int ke, .int ki, .ref kai, .int kw, .int ku, .int kn, .int kq, .int kr, .ref kah, .ref kas, .ref kap, .ref kad, .int kl, .int kz, .int kt, .int km, .int kf, .int kh, .ref kac])), (kax, .inl (cI, 16, .inl hx2)), (kay, .inl (cI, 16, .inl hy2))] H := hP
      have hD : va_D A [(o, .inr (6, [.int (0 : Int32), .int kg, .ref kax, .ref kay, .int ke, .int ki, .ref kai, .int kw, .int ku, .int kn, .int kq, .int kr, .ref kah, .ref kas, .ref kap, .ref kad, .int kl, .int kz, .int kt, .int km, .int kf, .int kh, .ref kac])), (kax, .inl (cI, 16, .inl hx2)), (kay, .inl (cI, 16, .inl hy2))] := hD
      refine lv_aload_n hx hb dX6_fence_125 rfl (lv_at hl 0 rfl) ?_
      refine lv_iload_n hx hb dX6_fence_126 rfl (lv_at hl 1 rfl) ?_
      refine va_put (D := D) (ci := 6) (v := .int cl) (ty := .int) (C := RX6) (T := TX6) (N := 23) hx hb hts hiX6 tyX6 tyX6_ok nmX6 hown hK.1 hP hD hS 0 rfl rfl 4 (by decide) (hts (.fieldLink RX6 71 "FencePilotModel" "ceiling" "I") (by decide +kernel)) (fun _ h9 => h9) rfl (by decide +kernel) rfl rfl (Nat.le_of_ble_eq_true rfl) dX6_fence_127 (fun H locs hP hD hS => ?_)
      have hP : va_P D vwCl [(o, .inr (6, [.int (0 : Int32), .int kg, .ref kax, .ref kay, .int cl, .int ki, .ref kai, .int kw, .int ku, .int kn, .int kq, .int kr, .ref kah, .ref kas, .ref kap, .ref kad, .int kl, .int kz, .int kt, .int km, .int kf, .int kh, .ref kac])), (kax, .inl (cI, 16, .inl hx2)), (kay, .inl (cI, 16, .inl hy2))] H := hP
      have hD : va_D A [(o, .inr (6, [.int (0 : Int32), .int kg, .ref kax, .ref kay, .int cl, .int ki, .ref kai, .int kw, .int ku, .int kn, .int kq, .int kr, .ref kah, .ref kas, .ref kap, .ref kad, .int kl, .int kz, .int kt, .int km, .int kf, .int kh, .ref kac])), (kax, .inl (cI, 16, .inl hx2)), (kay, .inl (cI, 16, .inl hy2))] := hD
      refine lv_iconst (v := 0) hx hb dX6_fence_130 (by decide) ?_
      exact kk_ri (hx2, hy2, (0 : Int32), kg, cl) hx hb hr hlk dX6_fence_131 hS (hP.sub [0, 1, 2] rfl) (hD.sub [0, 1, 2] (by decide) rfl) (by show ((0 : Int32), hx2, hy2, (0 : Int32), kg, cl) = FIN; rw [hF, g_X6_fence_lp]; rw [if_pos c_1001]; try rfl)
    · refine lv_aload_n hx hb dX6_fence_76 rfl (lv_at hl 0 rfl) ?_
      refine va_get (D := D) hx hb hts hiX6 hown hK.1 hP 0 rfl rfl 2 (by decide) (hts (.fieldLink RX6 7 "FencePilotModel" "cornerX" "[I") (by decide +kernel)) (fun _ h9 => h9) rfl dX6_fence_77 ?_
      refine lv_bipush (v := 8) hx hb dX6_fence_80 (by decide) ?_
      refine lv_iload_n hx hb dX6_fence_82 rfl (lv_at hl 2 rfl) ?_
      refine lv_iadd hx hb dX6_fence_83 ?_
      refine lv_aload_n hx hb dX6_fence_84 rfl (lv_at hl 0 rfl) ?_
      refine va_get (D := D) hx hb hts hiX6 hown hK.1 hP 0 rfl rfl 2 (by decide) (hts (.fieldLink RX6 7 "FencePilotModel" "cornerX" "[I") (by decide +kernel)) (fun _ h9 => h9) rfl dX6_fence_85 ?_
      refine lv_iload_n hx hb dX6_fence_88 rfl (lv_at hl 2 rfl) ?_
      refine va_iald hx hb hK.1 hP 1 0 rfl rfl (kk_Iix hI c_1001 (Int.le_trans hkg.2 (by decide))) dX6_fence_89 ?_
      refine va_iast hx hb hK.1 hP hD hS 1 0 rfl rfl (kk_Lix' (kk_Lda (kk_IL (b := 7) hI c_1001 hkg.2) (by decide) (j := 8) rfl (by decide) (by decide)) (by decide)) dX6_fence_90 (fun H locs hP hD hS => ?_)
      have hP : va_P D vwCl [(o, .inr (6, [.int kg, .int kc, .ref kax, .ref kay, .int ke, .int ki, .ref kai, .int kw, .int ku, .int kn, .int kq, .int kr, .ref kah, .ref kas, .ref kap, .ref kad, .int kl, .int kz, .int kt, .int km, .int kf, .int kh, .ref kac])), (kax, .inl (cI, 16, .inl (upd hx2 ((8 : Int32) + ix).toNatClampNeg (hx2 ix.toNatClampNeg)))), (kay, .inl (cI, 16, .inl hy2))] H := hP
      have hD : va_D A [(o, .inr (6, [.int kg, .int kc, .ref kax, .ref kay, .int ke, .int ki, .ref kai, .int kw, .int ku, .int kn, .int kq, .int kr, .ref kah, .ref kas, .ref kap, .ref kad, .int kl, .int kz, .int kt, .int km, .int kf, .int kh, .ref kac])), (kax, .inl (cI, 16, .inl (upd hx2 ((8 : Int32) + ix).toNatClampNeg (hx2 ix.toNatClampNeg)))), (kay, .inl (cI, 16, .inl hy2))] := hD
      refine lv_aload_n hx hb dX6_fence_91 rfl (lv_at hl 0 rfl) ?_
      refine va_get (D := D) hx hb hts hiX6 hown hK.1 hP 0 rfl rfl 3 (by decide) (hts (.fieldLink RX6 13 "FencePilotModel" "cornerY" "[I") (by decide +kernel)) (fun _ h9 => h9) rfl dX6_fence_92 ?_
      refine lv_bipush (v := 8) hx hb dX6_fence_95 (by decide) ?_
      refine lv_iload_n hx hb dX6_fence_97 rfl (lv_at hl 2 rfl) ?_
      refine lv_iadd hx hb dX6_fence_98 ?_
      refine lv_aload_n hx hb dX6_fence_99 rfl (lv_at hl 0 rfl) ?_
      refine va_get (D := D) hx hb hts hiX6 hown hK.1 hP 0 rfl rfl 3 (by decide) (hts (.fieldLink RX6 13 "FencePilotModel" "cornerY" "[I") (by decide +kernel)) (fun _ h9 => h9) rfl dX6_fence_100 ?_
      refine lv_iload_n hx hb dX6_fence_103 rfl (lv_at hl 2 rfl) ?_
      refine va_iald hx hb hK.1 hP 2 0 rfl rfl (kk_Iix hI c_1001 (Int.le_trans hkg.2 (by decide))) dX6_fence_104 ?_
      refine va_iast hx hb hK.1 hP hD hS 2 0 rfl rfl (kk_Lix' (kk_Lda (kk_IL (b := 7) hI c_1001 hkg.2) (by decide) (j := 8) rfl (by decide) (by decide)) (by decide)) dX6_fence_105 (fun H locs hP hD hS => ?_)
      have hP : va_P D vwCl [(o, .inr (6, [.int kg, .int kc, .ref kax, .ref kay, .int ke, .int ki, .ref kai, .int kw, .int ku, .int kn, .int kq, .int kr, .ref kah, .ref kas, .ref kap, .ref kad, .int kl, .int kz, .int kt, .int km, .int kf, .int kh, .ref kac])), (kax, .inl (cI, 16, .inl (upd hx2 ((8 : Int32) + ix).toNatClampNeg (hx2 ix.toNatClampNeg)))), (kay, .inl (cI, 16, .inl (upd hy2 ((8 : Int32) + ix).toNatClampNeg (hy2 ix.toNatClampNeg))))] H := hP
      have hD : va_D A [(o, .inr (6, [.int kg, .int kc, .ref kax, .ref kay, .int ke, .int ki, .ref kai, .int kw, .int ku, .int kn, .int kq, .int kr, .ref kah, .ref kas, .ref kap, .ref kad, .int kl, .int kz, .int kt, .int km, .int kf, .int kh, .ref kac])), (kax, .inl (cI, 16, .inl (upd hx2 ((8 : Int32) + ix).toNatClampNeg (hx2 ix.toNatClampNeg)))), (kay, .inl (cI, 16, .inl (upd hy2 ((8 : Int32) + ix).toNatClampNeg (hy2 ix.toNatClampNeg))))] := hD
      refine lv_iinc (v := (ix + 1)) (lv' := [(2, .int (ix + 1)), (0, .ref o), (1, .int cl)]) hx hb dX6_fence_106 hl (k := 2) rfl (by first | rfl | decide) (by decide) rfl (fun ls hl => ?_)
      refine lv_goto (tgt := 68) hx hb dX6_fence_109 (by decide) ?_
      exact ih (ix + 1) (upd hx2 ((8 : Int32) + ix).toNatClampNeg (hx2 ix.toNatClampNeg)) (upd hy2 ((8 : Int32) + ix).toNatClampNeg (hy2 ix.toNatClampNeg)) _ _ _ (kk_Iup hI c_1001) (by show FIN = (g_X6_fence_lp kg kc ke ki kw ku kn kq kr kl kz kt km kf kh fx fy cl fuel (ix + 1) (upd hx2 ((8 : Int32) + ix).toNatClampNeg (hx2 ix.toNatClampNeg)) (upd hy2 ((8 : Int32) + ix).toNatClampNeg (hy2 ix.toNatClampNeg))); rw [hF, g_X6_fence_lp]; rw [if_neg c_1001]; try rfl) (hP.sub [0, 1, 2] rfl) (hD.sub [0, 1, 2] (by decide) rfl) hS (lv_sub hl [1, 2, 0] rfl)
set_option maxHeartbeats 4000000 in
set_option maxRecDepth 100000 in
theorem k_X6_fence (l : Launch) (D : va_G) (cI cZ : ClassId) (o : Nat) (kax : Nat) (kay : Nat) (kai : Nat) (kah : Nat) (kas : Nat) (kap : Nat) (kad : Nat) (kac : Nat) (sz : Nat) (kg : Int32) (kc : Int32) (ke : Int32) (ki : Int32) (kw : Int32) (ku : Int32) (kn : Int32) (kq : Int32) (kr : Int32) (kl : Int32) (kz : Int32) (kt : Int32) (km : Int32) (kf : Int32) (kh : Int32) (fx : Nat → Int32) (fy : Nat → Int32) (cl : Int32) (hkg : kk_L kg 8) : kk_Mi l D cI cZ yX6_fence wsX6_fence ({ frames := 3, cells := 0, slots := 0, locals := 87 } : Room) [.ref o, .int cl] sz [(o, .inr (6, [.int kg, .int kc, .ref kax, .ref kay, .int ke, .int ki, .ref kai, .int kw, .int ku, .int kn, .int kq, .int kr, .ref kah, .ref kas, .ref kap, .ref kad, .int kl, .int kz, .int kt, .int km, .int kf, .int kh, .ref kac])), (kax, .inl (cI, 16, .inl fx)), (kay, .inl (cI, 16, .inl fy))] (fun (r : Int32) (u : (Nat → Int32) × (Nat → Int32) × Int32 × Int32 × Int32) => (r, u) = f_X6_fence kg kc ke ki kw ku kn kq kr kl kz kt km kf kh fx fy cl) (fun u => [(o, .inr (6, [.int u.2.2.1, .int u.2.2.2.1, .ref kax, .ref kay, .int u.2.2.2.2, .int ki, .ref kai, .int kw, .int ku, .int kn, .int kq, .int kr, .ref kah, .ref kas, .ref kap, .ref kad, .int kl, .int kz, .int kt, .int km, .int kf, .int kh, .ref kac])), (kax, .inl (cI, 16, .inl u.1)), (kay, .inl (cI, 16, .inl u.2.1))]) 0 0 := by
  refine kk_enti (cc := cX6_fence) (maxL := 3) (ret := (some .int)) (by decide +kernel) rfl (Nat.le_of_ble_eq_true rfl) (fun p e s m args below meth c A ls hX hP hD hS hl => ?_)
  have hX0 := hX
  obtain ⟨hx, hb, hml, hown, hts, hr, hlk, hnm, hK, hA⟩ := hX
  have hown : s.vm.findClass RX6 = some m.cls := hown
  have hiX6 : ∀ w ∈ wsX60, w ∈ wsX6_fence := by decide +kernel
  have hl : lv_has ls 3 [(0, .ref o), (1, .int cl)] := hl
  refine lv_aload_n hx hb dX6_fence_0 rfl (lv_at hl 0 rfl) ?_
  refine va_get (D := D) hx hb hts hiX6 hown hK.1 hP 0 rfl rfl 19 (by decide) (hts (.fieldLink RX6 62 "FencePilotModel" "mode" "I") (by decide +kernel)) (fun _ h9 => h9) rfl dX6_fence_1 ?_
  refine lv_if_eq (tgt := 9) hx hb dX6_fence_4 (by decide) (fun c_1 => ?_) (fun c_1 => ?_)
  · refine lv_aload_n hx hb dX6_fence_9 rfl (lv_at hl 0 rfl) ?_
    refine va_get (D := D) hx hb hts hiX6 hown hK.1 hP 0 rfl rfl 0 (by decide) (hts (.fieldLink RX6 47 "FencePilotModel" "given" "I") (by decide +kernel)) (fun _ h9 => h9) rfl dX6_fence_10 ?_
    refine lv_iconst (v := 3) hx hb dX6_fence_13 (by decide) ?_
    refine lv_icmp_ge (tgt := 20) hx hb dX6_fence_14 (by decide) (fun c_2 => ?_) (fun c_2 => ?_)
    · refine lv_aload_n hx hb dX6_fence_20 rfl (lv_at hl 0 rfl) ?_
      refine kk_cVi (wc := [(o, .inr (6, [.int kg, .int kc, .ref kax, .ref kay, .int ke, .int ki, .ref kai, .int kw, .int ku, .int kn, .int kq, .int kr, .ref kah, .ref kas, .ref kap, .ref kad, .int kl, .int kz, .int kt, .int km, .int kf, .int kh, .ref kac])), (kax, .inl (cI, 16, .inl fx)), (kay, .inl (cI, 16, .inl fy))]) (wr := []) ⟨hx, hb, hml, hown, hts⟩ hK hP hD hS hA [0, 1, 2] [] (k_X6_convex l D cI cZ o kax kay kai kah kas kap kad kac s.heap.size kg kc ke ki kw ku kn kq kr kl kz kt km kf kh fx fy (by assumption)) (cwV 0 hts gX6_fence_X6_convex rfl rfl rfl (by decide +kernel) ⟨(Nat.le_of_ble_eq_true rfl), (Nat.le_of_ble_eq_true rfl)⟩) rfl rfl (by decide) (by decide) (by decide) 0 6 rfl rfl rfl rfl hl.1 rfl (Nat.le_of_ble_eq_true rfl) dX6_fence_21 ⟨(Nat.le_of_ble_eq_true rfl), (Nat.le_of_ble_eq_true rfl)⟩ (fun r_3 u H locs hw_4 hP hD hS => ?_)
      have hw_4 : (f_X6_convex kg kc ke ki kw ku kn kq kr kl kz kt km kf kh fx fy) = r_3 := (hw_4 : r_3 = (f_X6_convex kg kc ke ki kw ku kn kq kr kl kz kt km kf kh fx fy)).symm
      subst hw_4
      have hP : va_P D vwCl [(o, .inr (6, [.int kg, .int kc, .ref kax, .ref kay, .int ke, .int ki, .ref kai, .int kw, .int ku, .int kn, .int kq, .int kr, .ref kah, .ref kas, .ref kap, .ref kad, .int kl, .int kz, .int kt, .int km, .int kf, .int kh, .ref kac])), (kax, .inl (cI, 16, .inl fx)), (kay, .inl (cI, 16, .inl fy))] H := hP
      have hD : va_D A [(o, .inr (6, [.int kg, .int kc, .ref kax, .ref kay, .int ke, .int ki, .ref kai, .int kw, .int ku, .int kn, .int kq, .int kr, .ref kah, .ref kas, .ref kap, .ref kad, .int kl, .int kz, .int kt, .int km, .int kf, .int kh, .ref kac])), (kax, .inl (cI, 16, .inl fx)), (kay, .inl (cI, 16, .inl fy))] := hD
      refine lv_if_ne (tgt := 30) hx hb dX6_fence_24 (by decide) (fun c_5 => ?_) (fun c_5 => ?_)
      · refine lv_aload_n hx hb dX6_fence_30 rfl (lv_at hl 0 rfl) ?_
        refine lv_iconst (v := 0) hx hb dX6_fence_31 (by decide) ?_
        refine lv_aload_n hx hb dX6_fence_32 rfl (lv_at hl 0 rfl) ?_
        refine va_get (D := D) hx hb hts hiX6 hown hK.1 hP 0 rfl rfl 0 (by decide) (hts (.fieldLink RX6 47 "FencePilotModel" "given" "I") (by decide +kernel)) (fun _ h9 => h9) rfl dX6_fence_33 ?_
        refine lv_iconst (v := 0) hx hb dX6_fence_36 (by decide) ?_
        refine lv_iconst (v := 0) hx hb dX6_fence_37 (by decide) ?_
        refine lv_ldc2 hx hb hown (hts (.constantLong RX6 69 1000) (by decide +kernel)) dX6_fence_38 ?_
        refine kk_cVi (wc := [(o, .inr (6, [.int kg, .int kc, .ref kax, .ref kay, .int ke, .int ki, .ref kai, .int kw, .int ku, .int kn, .int kq, .int kr, .ref kah, .ref kas, .ref kap, .ref kad, .int kl, .int kz, .int kt, .int km, .int kf, .int kh, .ref kac])), (kax, .inl (cI, 16, .inl fx)), (kay, .inl (cI, 16, .inl fy))]) (wr := []) ⟨hx, hb, hml, hown, hts⟩ hK hP hD hS hA [0, 1, 2] [] (k_X6_clearOfAll l D cI cZ o kax kay kai kah kas kap kad kac H.size kg kc ke ki kw ku kn kq kr kl kz kt km kf kh fx fy (0 : Int32) kg (0 : Int32) (0 : Int32) (1000 : Int64) ⟨by decide, by decide⟩ hkg) (cwV 5 hts gX6_fence_X6_clearOfAll rfl rfl rfl (by decide +kernel) ⟨(Nat.le_of_ble_eq_true rfl), (Nat.le_of_ble_eq_true rfl)⟩) rfl rfl (by decide) (by decide) (by decide) 0 6 rfl rfl rfl rfl hl.1 rfl (Nat.le_of_ble_eq_true rfl) dX6_fence_41 ⟨(Nat.le_of_ble_eq_true rfl), (Nat.le_of_ble_eq_true rfl)⟩ (fun r_6 u H locs hw_7 hP hD hS => ?_)
        have hw_7 : (f_X6_clearOfAll kg kc ke ki kw ku kn kq kr kl kz kt km kf kh fx fy (0 : Int32) kg (0 : Int32) (0 : Int32) (1000 : Int64)) = r_6 := (hw_7 : r_6 = (f_X6_clearOfAll kg kc ke ki kw ku kn kq kr kl kz kt km kf kh fx fy (0 : Int32) kg (0 : Int32) (0 : Int32) (1000 : Int64))).symm
        subst hw_7
        have hP : va_P D vwCl [(o, .inr (6, [.int kg, .int kc, .ref kax, .ref kay, .int ke, .int ki, .ref kai, .int kw, .int ku, .int kn, .int kq, .int kr, .ref kah, .ref kas, .ref kap, .ref kad, .int kl, .int kz, .int kt, .int km, .int kf, .int kh, .ref kac])), (kax, .inl (cI, 16, .inl fx)), (kay, .inl (cI, 16, .inl fy))] H := hP
        have hD : va_D A [(o, .inr (6, [.int kg, .int kc, .ref kax, .ref kay, .int ke, .int ki, .ref kai, .int kw, .int ku, .int kn, .int kq, .int kr, .ref kah, .ref kas, .ref kap, .ref kad, .int kl, .int kz, .int kt, .int km, .int kf, .int kh, .ref kac])), (kax, .inl (cI, 16, .inl fx)), (kay, .inl (cI, 16, .inl fy))] := hD
        refine lv_if_ne (tgt := 50) hx hb dX6_fence_44 (by decide) (fun c_8 => ?_) (fun c_8 => ?_)
        · refine lv_iload_n hx hb dX6_fence_50 rfl (lv_at hl 1 rfl) ?_
          refine lv_sipush (v := 1500) hx hb dX6_fence_51 (by decide) ?_
          refine lv_sipush (v := 10000) hx hb dX6_fence_54 (by decide) ?_
          refine kk_cSi (wc := []) (wr := [(o, .inr (6, [.int kg, .int kc, .ref kax, .ref kay, .int ke, .int ki, .ref kai, .int kw, .int ku, .int kn, .int kq, .int kr, .ref kah, .ref kas, .ref kap, .ref kad, .int kl, .int kz, .int kt, .int km, .int kf, .int kh, .ref kac])), (kax, .inl (cI, 16, .inl fx)), (kay, .inl (cI, 16, .inl fy))]) ⟨hx, hb, hml, hown, hts⟩ hK hP hD hS hA [] [0, 1, 2] (k_X6_within l D cI cZ  H.size cl (1500 : Int32) (10000 : Int32)) (va_cwS 3 hts gX6_fence_X6_within rfl rfl rfl (by decide +kernel) ⟨(Nat.le_of_ble_eq_true rfl), (Nat.le_of_ble_eq_true rfl)⟩) rfl rfl (by decide) (by decide) (by decide) rfl hl.1 rfl (Nat.le_of_ble_eq_true rfl) dX6_fence_57 ⟨(Nat.le_of_ble_eq_true rfl), (Nat.le_of_ble_eq_true rfl)⟩ (fun r_9 u H locs hw_10 hP hD hS => ?_)
          have hw_10 : (f_X6_within cl (1500 : Int32) (10000 : Int32)) = r_9 := (hw_10 : r_9 = (f_X6_within cl (1500 : Int32) (10000 : Int32))).symm
          subst hw_10
          have hP : va_P D vwCl [(o, .inr (6, [.int kg, .int kc, .ref kax, .ref kay, .int ke, .int ki, .ref kai, .int kw, .int ku, .int kn, .int kq, .int kr, .ref kah, .ref kas, .ref kap, .ref kad, .int kl, .int kz, .int kt, .int km, .int kf, .int kh, .ref kac])), (kax, .inl (cI, 16, .inl fx)), (kay, .inl (cI, 16, .inl fy))] H := hP
          have hD : va_D A [(o, .inr (6, [.int kg, .int kc, .ref kax, .ref kay, .int ke, .int ki, .ref kai, .int kw, .int ku, .int kn, .int kq, .int kr, .ref kah, .ref kas, .ref kap, .ref kad, .int kl, .int kz, .int kt, .int km, .int kf, .int kh, .ref kac])), (kax, .inl (cI, 16, .inl fx)), (kay, .inl (cI, 16, .inl fy))] := hD
          refine lv_if_ne (tgt := 66) hx hb dX6_fence_60 (by decide) (fun c_11 => ?_) (fun c_11 => ?_)
          · refine lv_iconst (v := 0) hx hb dX6_fence_66 (by decide) ?_
            refine lv_istore_n (lv' := [(2, .int (0 : Int32)), (0, .ref o), (1, .int cl)]) hx hb dX6_fence_67 rfl hl (by decide) rfl (fun ls hl => ?_)
            exact lp_X6_fence_lp l D cI cZ o kax kay kai kah kas kap kad kac kg kc ke ki kw ku kn kq kr kl kz kt km kf kh fx fy cl hkg hX0 (f_X6_fence kg kc ke ki kw ku kn kq kr kl kz kt km kf kh fx fy cl) 9 (0 : Int32) fx fy _ _ _ (kk_Ist 9 hkg.1 (Int.lt_of_le_of_lt hkg.2 (by decide))) (by show f_X6_fence kg kc ke ki kw ku kn kq kr kl kz kt km kf kh fx fy cl = (g_X6_fence_lp kg kc ke ki kw ku kn kq kr kl kz kt km kf kh fx fy cl 9 (0 : Int32) fx fy); unfold f_X6_fence; rw [if_pos c_1]; rw [if_pos c_2]; rw [if_neg c_5]; rw [if_neg c_8]; rw [if_neg c_11]; try rfl) (hP.sub [0, 1, 2] rfl) (hD.sub [0, 1, 2] (by decide) rfl) hS (lv_sub hl [1, 2, 0] rfl)
          · refine lv_bipush (v := -5) hx hb dX6_fence_63 (by decide) ?_
            exact kk_ri (fx, fy, kg, kc, ke) hx hb hr hlk dX6_fence_65 hS (hP.sub [0, 1, 2] rfl) (hD.sub [0, 1, 2] (by decide) rfl) (by show ((-5 : Int32), fx, fy, kg, kc, ke) = f_X6_fence kg kc ke ki kw ku kn kq kr kl kz kt km kf kh fx fy cl; unfold f_X6_fence; rw [if_pos c_1]; rw [if_pos c_2]; rw [if_neg c_5]; rw [if_neg c_8]; rw [if_pos c_11]; try rfl)
        · refine lv_bipush (v := -4) hx hb dX6_fence_47 (by decide) ?_
          exact kk_ri (fx, fy, kg, kc, ke) hx hb hr hlk dX6_fence_49 hS (hP.sub [0, 1, 2] rfl) (hD.sub [0, 1, 2] (by decide) rfl) (by show ((-4 : Int32), fx, fy, kg, kc, ke) = f_X6_fence kg kc ke ki kw ku kn kq kr kl kz kt km kf kh fx fy cl; unfold f_X6_fence; rw [if_pos c_1]; rw [if_pos c_2]; rw [if_neg c_5]; rw [if_pos c_8]; try rfl)
      · refine lv_bipush (v := -3) hx hb dX6_fence_27 (by decide) ?_
        exact kk_ri (fx, fy, kg, kc, ke) hx hb hr hlk dX6_fence_29 hS (hP.sub [0, 1, 2] rfl) (hD.sub [0, 1, 2] (by decide) rfl) (by show ((-3 : Int32), fx, fy, kg, kc, ke) = f_X6_fence kg kc ke ki kw ku kn kq kr kl kz kt km kf kh fx fy cl; unfold f_X6_fence; rw [if_pos c_1]; rw [if_pos c_2]; rw [if_pos c_5]; try rfl)
    · refine lv_bipush (v := -2) hx hb dX6_fence_17 (by decide) ?_
      exact kk_ri (fx, fy, kg, kc, ke) hx hb hr hlk dX6_fence_19 hS (hP.sub [0, 1, 2] rfl) (hD.sub [0, 1, 2] (by decide) rfl) (by show ((-2 : Int32), fx, fy, kg, kc, ke) = f_X6_fence kg kc ke ki kw ku kn kq kr kl kz kt km kf kh fx fy cl; unfold f_X6_fence; rw [if_pos c_1]; rw [if_neg c_2]; try rfl)
  · refine lv_iconst (v := -1) hx hb dX6_fence_7 (by decide) ?_
    exact kk_ri (fx, fy, kg, kc, ke) hx hb hr hlk dX6_fence_8 hS (hP.sub [0, 1, 2] rfl) (hD.sub [0, 1, 2] (by decide) rfl) (by show ((-1 : Int32), fx, fy, kg, kc, ke) = f_X6_fence kg kc ke ki kw ku kn kq kr kl kz kt km kf kh fx fy cl; unfold f_X6_fence; rw [if_neg c_1]; try rfl)
def f_X6_safe (kg : Int32) (kc : Int32) (ke : Int32) (ki : Int32) (kw : Int32) (ku : Int32) (kn : Int32) (kq : Int32) (kr : Int32) (kl : Int32) (kz : Int32) (kt : Int32) (km : Int32) (kf : Int32) (kh : Int32) (fx : Nat → Int32) (fy : Nat → Int32) (x : Int32) (y : Int32) : Int32 := (if kc ≤ (0 : Int32) then (0 : Int32) else (if (f_X6_within x (-20000 : Int32) (20000 : Int32)) = (0 : Int32) then (0 : Int32) else (if (f_X6_within y (-20000 : Int32) (20000 : Int32)) = (0 : Int32) then (0 : Int32) else (if (f_X6_safeAt kg kc ke ki kw ku kn kq kr kl kz kt km kf kh fx fy x y) = (0 : Int32) then (0 : Int32) else (1 : Int32)))))
set_option maxHeartbeats 4000000 in
set_option maxRecDepth 100000 in
theorem k_X6_safe (l : Launch) (D : va_G) (cI cZ : ClassId) (o : Nat) (kax : Nat) (kay : Nat) (kai : Nat) (kah : Nat) (kas : Nat) (kap : Nat) (kad : Nat) (kac : Nat) (sz : Nat) (kg : Int32) (kc : Int32) (ke : Int32) (ki : Int32) (kw : Int32) (ku : Int32) (kn : Int32) (kq : Int32) (kr : Int32) (kl : Int32) (kz : Int32) (kt : Int32) (km : Int32) (kf : Int32) (kh : Int32) (fx : Nat → Int32) (fy : Nat → Int32) (x : Int32) (y : Int32) (hkc : kk_L kc 8) : kk_Mi l D cI cZ yX6_safe wsX6_safe ({ frames := 4, cells := 0, slots := 0, locals := 109 } : Room) [.ref o, .int x, .int y] sz [(o, .inr (6, [.int kg, .int kc, .ref kax, .ref kay, .int ke, .int ki, .ref kai, .int kw, .int ku, .int kn, .int kq, .int kr, .ref kah, .ref kas, .ref kap, .ref kad, .int kl, .int kz, .int kt, .int km, .int kf, .int kh, .ref kac])), (kax, .inl (cI, 16, .inl fx)), (kay, .inl (cI, 16, .inl fy))] (fun (r : Int32) (_ : Unit) => r = f_X6_safe kg kc ke ki kw ku kn kq kr kl kz kt km kf kh fx fy x y) (fun _ => [(o, .inr (6, [.int kg, .int kc, .ref kax, .ref kay, .int ke, .int ki, .ref kai, .int kw, .int ku, .int kn, .int kq, .int kr, .ref kah, .ref kas, .ref kap, .ref kad, .int kl, .int kz, .int kt, .int km, .int kf, .int kh, .ref kac])), (kax, .inl (cI, 16, .inl fx)), (kay, .inl (cI, 16, .inl fy))]) 0 0 := by
  refine kk_enti (cc := cX6_safe) (maxL := 3) (ret := (some .boolean)) (by decide +kernel) rfl (Nat.le_of_ble_eq_true rfl) (fun p e s m args below meth c A ls hX hP hD hS hl => ?_)
  obtain ⟨hx, hb, hml, hown, hts, hr, hlk, hnm, hK, hA⟩ := hX
  have hown : s.vm.findClass RX6 = some m.cls := hown
  have hiX6 : ∀ w ∈ wsX60, w ∈ wsX6_safe := by decide +kernel
  have hl : lv_has ls 3 [(0, .ref o), (1, .int x), (2, .int y)] := hl
  refine lv_aload_n hx hb dX6_safe_0 rfl (lv_at hl 0 rfl) ?_
  refine va_get (D := D) hx hb hts hiX6 hown hK.1 hP 0 rfl rfl 1 (by decide) (hts (.fieldLink RX6 50 "FencePilotModel" "corners" "I") (by decide +kernel)) (fun _ h9 => h9) rfl dX6_safe_1 ?_
  refine lv_if_le (tgt := 46) hx hb dX6_safe_4 (by decide) (fun c_1 => ?_) (fun c_1 => ?_)
  · refine lv_iconst (v := 0) hx hb dX6_safe_46 (by decide) ?_
    exact kk_rz () hx hb hr hlk dX6_safe_47 hS (hP.sub [0, 1, 2] rfl) (hD.sub [0, 1, 2] (by decide) rfl) rfl (by show (0 : Int32) = f_X6_safe kg kc ke ki kw ku kn kq kr kl kz kt km kf kh fx fy x y; unfold f_X6_safe; rw [if_pos c_1]; try rfl)
  · refine lv_iload_n hx hb dX6_safe_7 rfl (lv_at hl 1 rfl) ?_
    refine lv_sipush (v := -20000) hx hb dX6_safe_8 (by decide) ?_
    refine lv_sipush (v := 20000) hx hb dX6_safe_11 (by decide) ?_
    refine kk_cSi (wc := []) (wr := [(o, .inr (6, [.int kg, .int kc, .ref kax, .ref kay, .int ke, .int ki, .ref kai, .int kw, .int ku, .int kn, .int kq, .int kr, .ref kah, .ref kas, .ref kap, .ref kad, .int kl, .int kz, .int kt, .int km, .int kf, .int kh, .ref kac])), (kax, .inl (cI, 16, .inl fx)), (kay, .inl (cI, 16, .inl fy))]) ⟨hx, hb, hml, hown, hts⟩ hK hP hD hS hA [] [0, 1, 2] (k_X6_within l D cI cZ  s.heap.size x (-20000 : Int32) (20000 : Int32)) (va_cwS 3 hts gX6_safe_X6_within rfl rfl rfl (by decide +kernel) ⟨(Nat.le_of_ble_eq_true rfl), (Nat.le_of_ble_eq_true rfl)⟩) rfl rfl (by decide) (by decide) (by decide) rfl hl.1 rfl (Nat.le_of_ble_eq_true rfl) dX6_safe_14 ⟨(Nat.le_of_ble_eq_true rfl), (Nat.le_of_ble_eq_true rfl)⟩ (fun r_2 u H locs hw_3 hP hD hS => ?_)
    have hw_3 : (f_X6_within x (-20000 : Int32) (20000 : Int32)) = r_2 := (hw_3 : r_2 = (f_X6_within x (-20000 : Int32) (20000 : Int32))).symm
    subst hw_3
    have hP : va_P D vwCl [(o, .inr (6, [.int kg, .int kc, .ref kax, .ref kay, .int ke, .int ki, .ref kai, .int kw, .int ku, .int kn, .int kq, .int kr, .ref kah, .ref kas, .ref kap, .ref kad, .int kl, .int kz, .int kt, .int km, .int kf, .int kh, .ref kac])), (kax, .inl (cI, 16, .inl fx)), (kay, .inl (cI, 16, .inl fy))] H := hP
    have hD : va_D A [(o, .inr (6, [.int kg, .int kc, .ref kax, .ref kay, .int ke, .int ki, .ref kai, .int kw, .int ku, .int kn, .int kq, .int kr, .ref kah, .ref kas, .ref kap, .ref kad, .int kl, .int kz, .int kt, .int km, .int kf, .int kh, .ref kac])), (kax, .inl (cI, 16, .inl fx)), (kay, .inl (cI, 16, .inl fy))] := hD
    refine lv_if_eq (tgt := 46) hx hb dX6_safe_17 (by decide) (fun c_4 => ?_) (fun c_4 => ?_)
    · refine lv_iconst (v := 0) hx hb dX6_safe_46 (by decide) ?_
      exact kk_rz () hx hb hr hlk dX6_safe_47 hS (hP.sub [0, 1, 2] rfl) (hD.sub [0, 1, 2] (by decide) rfl) rfl (by show (0 : Int32) = f_X6_safe kg kc ke ki kw ku kn kq kr kl kz kt km kf kh fx fy x y; unfold f_X6_safe; rw [if_neg c_1]; rw [if_pos c_4]; try rfl)
    · refine lv_iload_n hx hb dX6_safe_20 rfl (lv_at hl 2 rfl) ?_
      refine lv_sipush (v := -20000) hx hb dX6_safe_21 (by decide) ?_
      refine lv_sipush (v := 20000) hx hb dX6_safe_24 (by decide) ?_
      refine kk_cSi (wc := []) (wr := [(o, .inr (6, [.int kg, .int kc, .ref kax, .ref kay, .int ke, .int ki, .ref kai, .int kw, .int ku, .int kn, .int kq, .int kr, .ref kah, .ref kas, .ref kap, .ref kad, .int kl, .int kz, .int kt, .int km, .int kf, .int kh, .ref kac])), (kax, .inl (cI, 16, .inl fx)), (kay, .inl (cI, 16, .inl fy))]) ⟨hx, hb, hml, hown, hts⟩ hK hP hD hS hA [] [0, 1, 2] (k_X6_within l D cI cZ  H.size y (-20000 : Int32) (20000 : Int32)) (va_cwS 3 hts gX6_safe_X6_within rfl rfl rfl (by decide +kernel) ⟨(Nat.le_of_ble_eq_true rfl), (Nat.le_of_ble_eq_true rfl)⟩) rfl rfl (by decide) (by decide) (by decide) rfl hl.1 rfl (Nat.le_of_ble_eq_true rfl) dX6_safe_27 ⟨(Nat.le_of_ble_eq_true rfl), (Nat.le_of_ble_eq_true rfl)⟩ (fun r_5 u H locs hw_6 hP hD hS => ?_)
      have hw_6 : (f_X6_within y (-20000 : Int32) (20000 : Int32)) = r_5 := (hw_6 : r_5 = (f_X6_within y (-20000 : Int32) (20000 : Int32))).symm
      subst hw_6
      have hP : va_P D vwCl [(o, .inr (6, [.int kg, .int kc, .ref kax, .ref kay, .int ke, .int ki, .ref kai, .int kw, .int ku, .int kn, .int kq, .int kr, .ref kah, .ref kas, .ref kap, .ref kad, .int kl, .int kz, .int kt, .int km, .int kf, .int kh, .ref kac])), (kax, .inl (cI, 16, .inl fx)), (kay, .inl (cI, 16, .inl fy))] H := hP
      have hD : va_D A [(o, .inr (6, [.int kg, .int kc, .ref kax, .ref kay, .int ke, .int ki, .ref kai, .int kw, .int ku, .int kn, .int kq, .int kr, .ref kah, .ref kas, .ref kap, .ref kad, .int kl, .int kz, .int kt, .int km, .int kf, .int kh, .ref kac])), (kax, .inl (cI, 16, .inl fx)), (kay, .inl (cI, 16, .inl fy))] := hD
      refine lv_if_eq (tgt := 46) hx hb dX6_safe_30 (by decide) (fun c_7 => ?_) (fun c_7 => ?_)
      · refine lv_iconst (v := 0) hx hb dX6_safe_46 (by decide) ?_
        exact kk_rz () hx hb hr hlk dX6_safe_47 hS (hP.sub [0, 1, 2] rfl) (hD.sub [0, 1, 2] (by decide) rfl) rfl (by show (0 : Int32) = f_X6_safe kg kc ke ki kw ku kn kq kr kl kz kt km kf kh fx fy x y; unfold f_X6_safe; rw [if_neg c_1]; rw [if_neg c_4]; rw [if_pos c_7]; try rfl)
      · refine lv_aload_n hx hb dX6_safe_33 rfl (lv_at hl 0 rfl) ?_
        refine lv_iload_n hx hb dX6_safe_34 rfl (lv_at hl 1 rfl) ?_
        refine lv_iload_n hx hb dX6_safe_35 rfl (lv_at hl 2 rfl) ?_
        refine kk_cVi (wc := [(o, .inr (6, [.int kg, .int kc, .ref kax, .ref kay, .int ke, .int ki, .ref kai, .int kw, .int ku, .int kn, .int kq, .int kr, .ref kah, .ref kas, .ref kap, .ref kad, .int kl, .int kz, .int kt, .int km, .int kf, .int kh, .ref kac])), (kax, .inl (cI, 16, .inl fx)), (kay, .inl (cI, 16, .inl fy))]) (wr := []) ⟨hx, hb, hml, hown, hts⟩ hK hP hD hS hA [0, 1, 2] [] (k_X6_safeAt l D cI cZ o kax kay kai kah kas kap kad kac H.size kg kc ke ki kw ku kn kq kr kl kz kt km kf kh fx fy x y (by assumption)) (cwV 2 hts gX6_safe_X6_safeAt rfl rfl rfl (by decide +kernel) ⟨(Nat.le_of_ble_eq_true rfl), (Nat.le_of_ble_eq_true rfl)⟩) rfl rfl (by decide) (by decide) (by decide) 0 6 rfl rfl rfl rfl hl.1 rfl (Nat.le_of_ble_eq_true rfl) dX6_safe_36 ⟨(Nat.le_of_ble_eq_true rfl), (Nat.le_of_ble_eq_true rfl)⟩ (fun r_8 u H locs hw_9 hP hD hS => ?_)
        have hw_9 : (f_X6_safeAt kg kc ke ki kw ku kn kq kr kl kz kt km kf kh fx fy x y) = r_8 := (hw_9 : r_8 = (f_X6_safeAt kg kc ke ki kw ku kn kq kr kl kz kt km kf kh fx fy x y)).symm
        subst hw_9
        have hP : va_P D vwCl [(o, .inr (6, [.int kg, .int kc, .ref kax, .ref kay, .int ke, .int ki, .ref kai, .int kw, .int ku, .int kn, .int kq, .int kr, .ref kah, .ref kas, .ref kap, .ref kad, .int kl, .int kz, .int kt, .int km, .int kf, .int kh, .ref kac])), (kax, .inl (cI, 16, .inl fx)), (kay, .inl (cI, 16, .inl fy))] H := hP
        have hD : va_D A [(o, .inr (6, [.int kg, .int kc, .ref kax, .ref kay, .int ke, .int ki, .ref kai, .int kw, .int ku, .int kn, .int kq, .int kr, .ref kah, .ref kas, .ref kap, .ref kad, .int kl, .int kz, .int kt, .int km, .int kf, .int kh, .ref kac])), (kax, .inl (cI, 16, .inl fx)), (kay, .inl (cI, 16, .inl fy))] := hD
        refine lv_if_eq (tgt := 46) hx hb dX6_safe_39 (by decide) (fun c_10 => ?_) (fun c_10 => ?_)
        · refine lv_iconst (v := 0) hx hb dX6_safe_46 (by decide) ?_
          exact kk_rz () hx hb hr hlk dX6_safe_47 hS (hP.sub [0, 1, 2] rfl) (hD.sub [0, 1, 2] (by decide) rfl) rfl (by show (0 : Int32) = f_X6_safe kg kc ke ki kw ku kn kq kr kl kz kt km kf kh fx fy x y; unfold f_X6_safe; rw [if_neg c_1]; rw [if_neg c_4]; rw [if_neg c_7]; rw [if_pos c_10]; try rfl)
        · refine lv_iconst (v := 1) hx hb dX6_safe_42 (by decide) ?_
          refine lv_goto (tgt := 47) hx hb dX6_safe_43 (by decide) ?_
          exact kk_rz () hx hb hr hlk dX6_safe_47 hS (hP.sub [0, 1, 2] rfl) (hD.sub [0, 1, 2] (by decide) rfl) rfl (by show (1 : Int32) = f_X6_safe kg kc ke ki kw ku kn kq kr kl kz kt km kf kh fx fy x y; unfold f_X6_safe; rw [if_neg c_1]; rw [if_neg c_4]; rw [if_neg c_7]; rw [if_neg c_10]; try rfl)
def f_X6_upload (kg : Int32) (kc : Int32) (ke : Int32) (ki : Int32) (kw : Int32) (ku : Int32) (kn : Int32) (kq : Int32) (kr : Int32) (kl : Int32) (kz : Int32) (kt : Int32) (km : Int32) (kf : Int32) (kh : Int32) (n : Int32) : Int32 × Int32 × Int32 × Int32 × Int32 := (if (f_X6_within n (1 : Int32) (8 : Int32)) = (0 : Int32) then ((-5 : Int32), ku, kn, kq, kr) else ((0 : Int32), n, (0 : Int32), (0 : Int32), (0 : Int32)))
set_option maxHeartbeats 4000000 in
set_option maxRecDepth 100000 in
theorem k_X6_upload (l : Launch) (D : va_G) (cI cZ : ClassId) (o : Nat) (kax : Nat) (kay : Nat) (kai : Nat) (kah : Nat) (kas : Nat) (kap : Nat) (kad : Nat) (kac : Nat) (sz : Nat) (kg : Int32) (kc : Int32) (ke : Int32) (ki : Int32) (kw : Int32) (ku : Int32) (kn : Int32) (kq : Int32) (kr : Int32) (kl : Int32) (kz : Int32) (kt : Int32) (km : Int32) (kf : Int32) (kh : Int32) (n : Int32)  : kk_Mi l D cI cZ yX6_upload wsX6_upload ({ frames := 1, cells := 0, slots := 0, locals := 22 } : Room) [.ref o, .int n] sz [(o, .inr (6, [.int kg, .int kc, .ref kax, .ref kay, .int ke, .int ki, .ref kai, .int kw, .int ku, .int kn, .int kq, .int kr, .ref kah, .ref kas, .ref kap, .ref kad, .int kl, .int kz, .int kt, .int km, .int kf, .int kh, .ref kac]))] (fun (r : Int32) (u : Int32 × Int32 × Int32 × Int32) => (r, u) = f_X6_upload kg kc ke ki kw ku kn kq kr kl kz kt km kf kh n) (fun u => [(o, .inr (6, [.int kg, .int kc, .ref kax, .ref kay, .int ke, .int ki, .ref kai, .int kw, .int u.1, .int u.2.1, .int u.2.2.1, .int u.2.2.2, .ref kah, .ref kas, .ref kap, .ref kad, .int kl, .int kz, .int kt, .int km, .int kf, .int kh, .ref kac]))]) 0 0 := by
  refine kk_enti (cc := cX6_upload) (maxL := 2) (ret := (some .int)) (by decide +kernel) rfl (Nat.le_of_ble_eq_true rfl) (fun p e s m args below meth c A ls hX hP hD hS hl => ?_)
  obtain ⟨hx, hb, hml, hown, hts, hr, hlk, hnm, hK, hA⟩ := hX
  have hown : s.vm.findClass RX6 = some m.cls := hown
  have hiX6 : ∀ w ∈ wsX60, w ∈ wsX6_upload := by decide +kernel
  have hl : lv_has ls 2 [(0, .ref o), (1, .int n)] := hl
  refine lv_iload_n hx hb dX6_upload_0 rfl (lv_at hl 1 rfl) ?_
  refine lv_iconst (v := 1) hx hb dX6_upload_1 (by decide) ?_
  refine lv_bipush (v := 8) hx hb dX6_upload_2 (by decide) ?_
  refine kk_cSi (wc := []) (wr := [(o, .inr (6, [.int kg, .int kc, .ref kax, .ref kay, .int ke, .int ki, .ref kai, .int kw, .int ku, .int kn, .int kq, .int kr, .ref kah, .ref kas, .ref kap, .ref kad, .int kl, .int kz, .int kt, .int km, .int kf, .int kh, .ref kac]))]) ⟨hx, hb, hml, hown, hts⟩ hK hP hD hS hA [] [0] (k_X6_within l D cI cZ  s.heap.size n (1 : Int32) (8 : Int32)) (va_cwS 3 hts gX6_upload_X6_within rfl rfl rfl (by decide +kernel) ⟨(Nat.le_of_ble_eq_true rfl), (Nat.le_of_ble_eq_true rfl)⟩) rfl rfl (by decide) (by decide) (by decide) rfl hl.1 rfl (Nat.le_of_ble_eq_true rfl) dX6_upload_4 ⟨(Nat.le_of_ble_eq_true rfl), (Nat.le_of_ble_eq_true rfl)⟩ (fun r_1 u H locs hw_2 hP hD hS => ?_)
  have hw_2 : (f_X6_within n (1 : Int32) (8 : Int32)) = r_1 := (hw_2 : r_1 = (f_X6_within n (1 : Int32) (8 : Int32))).symm
  subst hw_2
  have hP : va_P D vwCl [(o, .inr (6, [.int kg, .int kc, .ref kax, .ref kay, .int ke, .int ki, .ref kai, .int kw, .int ku, .int kn, .int kq, .int kr, .ref kah, .ref kas, .ref kap, .ref kad, .int kl, .int kz, .int kt, .int km, .int kf, .int kh, .ref kac]))] H := hP
  have hD : va_D A [(o, .inr (6, [.int kg, .int kc, .ref kax, .ref kay, .int ke, .int ki, .ref kai, .int kw, .int ku, .int kn, .int kq, .int kr, .ref kah, .ref kas, .ref kap, .ref kad, .int kl, .int kz, .int kt, .int km, .int kf, .int kh, .ref kac]))] := hD
  refine lv_if_ne (tgt := 13) hx hb dX6_upload_7 (by decide) (fun c_3 => ?_) (fun c_3 => ?_)
  · refine lv_aload_n hx hb dX6_upload_13 rfl (lv_at hl 0 rfl) ?_
    refine lv_iload_n hx hb dX6_upload_14 rfl (lv_at hl 1 rfl) ?_
    refine va_put (D := D) (ci := 6) (v := .int n) (ty := .int) (C := RX6) (T := TX6) (N := 23) hx hb hts hiX6 tyX6 tyX6_ok nmX6 hown hK.1 hP hD hS 0 rfl rfl 8 (by decide) (hts (.fieldLink RX6 78 "FencePilotModel" "uploads" "I") (by decide +kernel)) (fun _ h9 => h9) rfl (by decide +kernel) rfl rfl (Nat.le_of_ble_eq_true rfl) dX6_upload_15 (fun H locs hP hD hS => ?_)
    have hP : va_P D vwCl [(o, .inr (6, [.int kg, .int kc, .ref kax, .ref kay, .int ke, .int ki, .ref kai, .int kw, .int n, .int kn, .int kq, .int kr, .ref kah, .ref kas, .ref kap, .ref kad, .int kl, .int kz, .int kt, .int km, .int kf, .int kh, .ref kac]))] H := hP
    have hD : va_D A [(o, .inr (6, [.int kg, .int kc, .ref kax, .ref kay, .int ke, .int ki, .ref kai, .int kw, .int n, .int kn, .int kq, .int kr, .ref kah, .ref kas, .ref kap, .ref kad, .int kl, .int kz, .int kt, .int km, .int kf, .int kh, .ref kac]))] := hD
    refine lv_aload_n hx hb dX6_upload_18 rfl (lv_at hl 0 rfl) ?_
    refine lv_iconst (v := 0) hx hb dX6_upload_19 (by decide) ?_
    refine va_put (D := D) (ci := 6) (v := .int (0 : Int32)) (ty := .int) (C := RX6) (T := TX6) (N := 23) hx hb hts hiX6 tyX6 tyX6_ok nmX6 hown hK.1 hP hD hS 0 rfl rfl 9 (by decide) (hts (.fieldLink RX6 81 "FencePilotModel" "wanted" "I") (by decide +kernel)) (fun _ h9 => h9) rfl (by decide +kernel) rfl rfl (Nat.le_of_ble_eq_true rfl) dX6_upload_20 (fun H locs hP hD hS => ?_)
    have hP : va_P D vwCl [(o, .inr (6, [.int kg, .int kc, .ref kax, .ref kay, .int ke, .int ki, .ref kai, .int kw, .int n, .int (0 : Int32), .int kq, .int kr, .ref kah, .ref kas, .ref kap, .ref kad, .int kl, .int kz, .int kt, .int km, .int kf, .int kh, .ref kac]))] H := hP
    have hD : va_D A [(o, .inr (6, [.int kg, .int kc, .ref kax, .ref kay, .int ke, .int ki, .ref kai, .int kw, .int n, .int (0 : Int32), .int kq, .int kr, .ref kah, .ref kas, .ref kap, .ref kad, .int kl, .int kz, .int kt, .int km, .int kf, .int kh, .ref kac]))] := hD
    refine lv_aload_n hx hb dX6_upload_23 rfl (lv_at hl 0 rfl) ?_
    refine lv_iconst (v := 0) hx hb dX6_upload_24 (by decide) ?_
    refine va_put (D := D) (ci := 6) (v := .int (0 : Int32)) (ty := .int) (C := RX6) (T := TX6) (N := 23) hx hb hts hiX6 tyX6 tyX6_ok nmX6 hown hK.1 hP hD hS 0 rfl rfl 10 (by decide) (hts (.fieldLink RX6 84 "FencePilotModel" "age" "I") (by decide +kernel)) (fun _ h9 => h9) rfl (by decide +kernel) rfl rfl (Nat.le_of_ble_eq_true rfl) dX6_upload_25 (fun H locs hP hD hS => ?_)
    have hP : va_P D vwCl [(o, .inr (6, [.int kg, .int kc, .ref kax, .ref kay, .int ke, .int ki, .ref kai, .int kw, .int n, .int (0 : Int32), .int (0 : Int32), .int kr, .ref kah, .ref kas, .ref kap, .ref kad, .int kl, .int kz, .int kt, .int km, .int kf, .int kh, .ref kac]))] H := hP
    have hD : va_D A [(o, .inr (6, [.int kg, .int kc, .ref kax, .ref kay, .int ke, .int ki, .ref kai, .int kw, .int n, .int (0 : Int32), .int (0 : Int32), .int kr, .ref kah, .ref kas, .ref kap, .ref kad, .int kl, .int kz, .int kt, .int km, .int kf, .int kh, .ref kac]))] := hD
    refine lv_aload_n hx hb dX6_upload_28 rfl (lv_at hl 0 rfl) ?_
    refine lv_iconst (v := 0) hx hb dX6_upload_29 (by decide) ?_
    refine va_put (D := D) (ci := 6) (v := .int (0 : Int32)) (ty := .int) (C := RX6) (T := TX6) (N := 23) hx hb hts hiX6 tyX6 tyX6_ok nmX6 hown hK.1 hP hD hS 0 rfl rfl 11 (by decide) (hts (.fieldLink RX6 87 "FencePilotModel" "repeats" "I") (by decide +kernel)) (fun _ h9 => h9) rfl (by decide +kernel) rfl rfl (Nat.le_of_ble_eq_true rfl) dX6_upload_30 (fun H locs hP hD hS => ?_)
    have hP : va_P D vwCl [(o, .inr (6, [.int kg, .int kc, .ref kax, .ref kay, .int ke, .int ki, .ref kai, .int kw, .int n, .int (0 : Int32), .int (0 : Int32), .int (0 : Int32), .ref kah, .ref kas, .ref kap, .ref kad, .int kl, .int kz, .int kt, .int km, .int kf, .int kh, .ref kac]))] H := hP
    have hD : va_D A [(o, .inr (6, [.int kg, .int kc, .ref kax, .ref kay, .int ke, .int ki, .ref kai, .int kw, .int n, .int (0 : Int32), .int (0 : Int32), .int (0 : Int32), .ref kah, .ref kas, .ref kap, .ref kad, .int kl, .int kz, .int kt, .int km, .int kf, .int kh, .ref kac]))] := hD
    refine lv_iconst (v := 0) hx hb dX6_upload_33 (by decide) ?_
    exact kk_ri (n, (0 : Int32), (0 : Int32), (0 : Int32)) hx hb hr hlk dX6_upload_34 hS (hP.sub [0] rfl) (hD.sub [0] (by decide) rfl) (by show ((0 : Int32), n, (0 : Int32), (0 : Int32), (0 : Int32)) = f_X6_upload kg kc ke ki kw ku kn kq kr kl kz kt km kf kh n; unfold f_X6_upload; rw [if_neg c_3]; try rfl)
  · refine lv_bipush (v := -5) hx hb dX6_upload_10 (by decide) ?_
    exact kk_ri (ku, kn, kq, kr) hx hb hr hlk dX6_upload_12 hS (hP.sub [0] rfl) (hD.sub [0] (by decide) rfl) (by show ((-5 : Int32), ku, kn, kq, kr) = f_X6_upload kg kc ke ki kw ku kn kq kr kl kz kt km kf kh n; unfold f_X6_upload; rw [if_pos c_3]; try rfl)
def g_X6_item_lp (kg : Int32) (kc : Int32) (ke : Int32) (ki : Int32) (kw : Int32) (ku : Int32) (kn : Int32) (kq : Int32) (kr : Int32) (kl : Int32) (kz : Int32) (kt : Int32) (km : Int32) (kf : Int32) (kh : Int32) (fi : Nat → Int32) (k : Int32) (x : Int32) (y : Int32) (z : Int32) : Nat → Int32 → (Nat → Int32) → Int32 × (Nat → Int32) × Int32 × Int32 × Int32 × Int32 × Int32 × Int32
  | 0, _, _ => (0, (fun _ => 0), 0, 0, 0, 0, 0, 0)
  | fuel + 1, ix, fi2 => (if (24 : Int32) ≤ ix then ((100 : Int32), fi2, ku, (0 : Int32), (0 : Int32), (kn + (1 : Int32)), (0 : Int32), (0 : Int32)) else (g_X6_item_lp kg kc ke ki kw ku kn kq kr kl kz kt km kf kh fi k x y z fuel (ix + 1) (upd fi2 ix.toNatClampNeg (fi2 ((24 : Int32) + ix).toNatClampNeg))))
def f_X6_item (kg : Int32) (kc : Int32) (ke : Int32) (ki : Int32) (kw : Int32) (ku : Int32) (kn : Int32) (kq : Int32) (kr : Int32) (kl : Int32) (kz : Int32) (kt : Int32) (km : Int32) (kf : Int32) (kh : Int32) (fi : Nat → Int32) (k : Int32) (x : Int32) (y : Int32) (z : Int32) : Int32 × (Nat → Int32) × Int32 × Int32 × Int32 × Int32 × Int32 × Int32 := (if ku = (0 : Int32) then ((-6 : Int32), fi, ki, kw, ku, kn, kq, kr) else (if (f_X6_within x (-10000 : Int32) (10000 : Int32)) = (0 : Int32) then ((-5 : Int32), fi, ki, kw, ku, kn, kq, kr) else (if (f_X6_within y (-10000 : Int32) (10000 : Int32)) = (0 : Int32) then ((-5 : Int32), fi, ki, kw, ku, kn, kq, kr) else (if (f_X6_within z (500 : Int32) (10000 : Int32)) = (0 : Int32) then ((-5 : Int32), fi, ki, kw, ku, kn, kq, kr) else (if k = kn then (if ku ≤ (kn + (1 : Int32)) then (g_X6_item_lp kg kc ke ki kw ku kn kq kr kl kz kt km kf kh fi k x y z 25 (0 : Int32) (upd (upd (upd fi ((24 : Int32) + ((3 : Int32) * k)).toNatClampNeg x) ((25 : Int32) + ((3 : Int32) * k)).toNatClampNeg y) ((26 : Int32) + ((3 : Int32) * k)).toNatClampNeg z)) else ((kn + (1 : Int32)), (upd (upd (upd fi ((24 : Int32) + ((3 : Int32) * k)).toNatClampNeg x) ((25 : Int32) + ((3 : Int32) * k)).toNatClampNeg y) ((26 : Int32) + ((3 : Int32) * k)).toNatClampNeg z), ki, kw, ku, (kn + (1 : Int32)), (0 : Int32), (0 : Int32))) else (kn, fi, ki, kw, ku, kn, kq, kr))))))
set_option maxHeartbeats 4000000 in
set_option maxRecDepth 100000 in
theorem lp_X6_item_lp (l : Launch) (D : va_G) (cI cZ : ClassId) (o : Nat) (kax : Nat) (kay : Nat) (kai : Nat) (kah : Nat) (kas : Nat) (kap : Nat) (kad : Nat) (kac : Nat) (kg : Int32) (kc : Int32) (ke : Int32) (ki : Int32) (kw : Int32) (ku : Int32) (kn : Int32) (kq : Int32) (kr : Int32) (kl : Int32) (kz : Int32) (kt : Int32) (km : Int32) (kf : Int32) (kh : Int32) (fi : Nat → Int32) (k : Int32) (x : Int32) (y : Int32) (z : Int32) (hwn : ¬ ku = 0 → kk_L kn 7)  {p : Program} {e : Env} {s : State} {m : MethodId} {args : Array Value} {below : List Frame} {meth : Method} {c : Code} {A : Nat → Prop} (hX : kk_X p s m args meth c cX6_item 6 (some .int) yX6_item wsX6_item A D cI cZ) (FIN : Int32 × (Nat → Int32) × Int32 × Int32 × Int32 × Int32 × Int32 × Int32)  :
    ∀ (fuel : Nat) (ix : Int32) (fi2 : Nat → Int32) (H : Heap) (locs : List Loc) (ls : Array Slot), kk_I fuel ix 24 → FIN = g_X6_item_lp kg kc ke ki kw ku kn kq kr kl kz kt km kf kh fi k x y z fuel ix fi2 → va_P D vwCl [(o, .inr (6, [.int kg, .int kc, .ref kax, .ref kay, .int ke, .int ki, .ref kai, .int kw, .int ku, .int (kn + (1 : Int32)), .int (0 : Int32), .int (0 : Int32), .ref kah, .ref kas, .ref kap, .ref kad, .int kl, .int kz, .int kt, .int km, .int kf, .int kh, .ref kac])), (kai, .inl (cI, 48, .inl fi2))] H → va_D A [(o, .inr (6, [.int kg, .int kc, .ref kax, .ref kay, .int ke, .int ki, .ref kai, .int kw, .int ku, .int (kn + (1 : Int32)), .int (0 : Int32), .int (0 : Int32), .ref kah, .ref kas, .ref kap, .ref kad, .int kl, .int kz, .int kt, .int km, .int kf, .int kh, .ref kac])), (kai, .inl (cI, 48, .inl fi2))] → va_S A s.heap H locs → lv_has ls 6 [(0, .ref o), (1, .int k), (2, .int x), (3, .int y), (4, .int z), (5, .int ix)] → W p l e ({ frames := 1, cells := 0, slots := 0, locals := 22 } : Room) s m args below meth c H locs 0 0 (MQ below (va_Qi (fun (r : Int32) (u : (Nat → Int32) × Int32 × Int32 × Int32 × Int32 × Int32 × Int32) => (r, u) = FIN) (fun u t => kk_B D A [(o, .inr (6, [.int kg, .int kc, .ref kax, .ref kay, .int ke, .int u.2.1, .ref kai, .int u.2.2.1, .int u.2.2.2.1, .int u.2.2.2.2.1, .int u.2.2.2.2.2.1, .int u.2.2.2.2.2.2, .ref kah, .ref kas, .ref kap, .ref kad, .int kl, .int kz, .int kt, .int km, .int kf, .int kh, .ref kac])), (kai, .inl (cI, 48, .inl u.1))] t) A) args s 0 0 A) (F0 m 142 ls []) := by
  have hX0 := hX
  obtain ⟨hx, hb, hml, hown, hts, hr, hlk, hnm, hK, hA⟩ := hX
  have hown : s.vm.findClass RX6 = some m.cls := hown
  have hiX6 : ∀ w ∈ wsX60, w ∈ wsX6_item := by decide +kernel
  intro fuel
  induction fuel with
  | zero =>
    intro ix fi2 H locs ls hI
    exact absurd hI kk_I0
  | succ fuel ih =>
    intro ix fi2 H locs ls hI hF hP hD hS hl
    refine lv_iload hx hb dX6_item_142 (lv_at hl 5 rfl) ?_
    refine lv_bipush (v := 24) hx hb dX6_item_144 (by decide) ?_
    refine lv_icmp_ge (tgt := 172) hx hb dX6_item_146 (by decide) (fun c_1001 => ?_) (fun c_1001 => ?_)
    · refine lv_aload_n hx hb dX6_item_172 rfl (lv_at hl 0 rfl) ?_
      refine lv_aload_n hx hb dX6_item_173 rfl (lv_at hl 0 rfl) ?_
      refine va_get (D := D) hx hb hts hiX6 hown hK.1 hP 0 rfl rfl 8 (by decide) (hts (.fieldLink RX6 78 "FencePilotModel" "uploads" "I") (by decide +kernel)) (fun _ h9 => h9) rfl dX6_item_174 ?_
      refine va_put (D := D) (ci := 6) (v := .int ku) (ty := .int) (C := RX6) (T := TX6) (N := 23) hx hb hts hiX6 tyX6 tyX6_ok nmX6 hown hK.1 hP hD hS 0 rfl rfl 5 (by decide) (hts (.fieldLink RX6 90 "FencePilotModel" "items" "I") (by decide +kernel)) (fun _ h9 => h9) rfl (by decide +kernel) rfl rfl (Nat.le_of_ble_eq_true rfl) dX6_item_177 (fun H locs hP hD hS => ?_)
      have hP : va_P D vwCl [(o, .inr (6, [.int kg, .int kc, .ref kax, .ref kay, .int ke, .int ku, .ref kai, .int kw, .int ku, .int (kn + (1 : Int32)), .int (0 : Int32), .int (0 : Int32), .ref kah, .ref kas, .ref kap, .ref kad, .int kl, .int kz, .int kt, .int km, .int kf, .int kh, .ref kac])), (kai, .inl (cI, 48, .inl fi2))] H := hP
      have hD : va_D A [(o, .inr (6, [.int kg, .int kc, .ref kax, .ref kay, .int ke, .int ku, .ref kai, .int kw, .int ku, .int (kn + (1 : Int32)), .int (0 : Int32), .int (0 : Int32), .ref kah, .ref kas, .ref kap, .ref kad, .int kl, .int kz, .int kt, .int km, .int kf, .int kh, .ref kac])), (kai, .inl (cI, 48, .inl fi2))] := hD
      refine lv_aload_n hx hb dX6_item_180 rfl (lv_at hl 0 rfl) ?_
      refine lv_iconst (v := 0) hx hb dX6_item_181 (by decide) ?_
      refine va_put (D := D) (ci := 6) (v := .int (0 : Int32)) (ty := .int) (C := RX6) (T := TX6) (N := 23) hx hb hts hiX6 tyX6 tyX6_ok nmX6 hown hK.1 hP hD hS 0 rfl rfl 8 (by decide) (hts (.fieldLink RX6 78 "FencePilotModel" "uploads" "I") (by decide +kernel)) (fun _ h9 => h9) rfl (by decide +kernel) rfl rfl (Nat.le_of_ble_eq_true rfl) dX6_item_182 (fun H locs hP hD hS => ?_)
      have hP : va_P D vwCl [(o, .inr (6, [.int kg, .int kc, .ref kax, .ref kay, .int ke, .int ku, .ref kai, .int kw, .int (0 : Int32), .int (kn + (1 : Int32)), .int (0 : Int32), .int (0 : Int32), .ref kah, .ref kas, .ref kap, .ref kad, .int kl, .int kz, .int kt, .int km, .int kf, .int kh, .ref kac])), (kai, .inl (cI, 48, .inl fi2))] H := hP
      have hD : va_D A [(o, .inr (6, [.int kg, .int kc, .ref kax, .ref kay, .int ke, .int ku, .ref kai, .int kw, .int (0 : Int32), .int (kn + (1 : Int32)), .int (0 : Int32), .int (0 : Int32), .ref kah, .ref kas, .ref kap, .ref kad, .int kl, .int kz, .int kt, .int km, .int kf, .int kh, .ref kac])), (kai, .inl (cI, 48, .inl fi2))] := hD
      refine lv_aload_n hx hb dX6_item_185 rfl (lv_at hl 0 rfl) ?_
      refine lv_iconst (v := 0) hx hb dX6_item_186 (by decide) ?_
      refine va_put (D := D) (ci := 6) (v := .int (0 : Int32)) (ty := .int) (C := RX6) (T := TX6) (N := 23) hx hb hts hiX6 tyX6 tyX6_ok nmX6 hown hK.1 hP hD hS 0 rfl rfl 7 (by decide) (hts (.fieldLink RX6 93 "FencePilotModel" "waypoint" "I") (by decide +kernel)) (fun _ h9 => h9) rfl (by decide +kernel) rfl rfl (Nat.le_of_ble_eq_true rfl) dX6_item_187 (fun H locs hP hD hS => ?_)
      have hP : va_P D vwCl [(o, .inr (6, [.int kg, .int kc, .ref kax, .ref kay, .int ke, .int ku, .ref kai, .int (0 : Int32), .int (0 : Int32), .int (kn + (1 : Int32)), .int (0 : Int32), .int (0 : Int32), .ref kah, .ref kas, .ref kap, .ref kad, .int kl, .int kz, .int kt, .int km, .int kf, .int kh, .ref kac])), (kai, .inl (cI, 48, .inl fi2))] H := hP
      have hD : va_D A [(o, .inr (6, [.int kg, .int kc, .ref kax, .ref kay, .int ke, .int ku, .ref kai, .int (0 : Int32), .int (0 : Int32), .int (kn + (1 : Int32)), .int (0 : Int32), .int (0 : Int32), .ref kah, .ref kas, .ref kap, .ref kad, .int kl, .int kz, .int kt, .int km, .int kf, .int kh, .ref kac])), (kai, .inl (cI, 48, .inl fi2))] := hD
      refine lv_bipush (v := 100) hx hb dX6_item_190 (by decide) ?_
      exact kk_ri (fi2, ku, (0 : Int32), (0 : Int32), (kn + (1 : Int32)), (0 : Int32), (0 : Int32)) hx hb hr hlk dX6_item_192 hS (hP.sub [0, 1] rfl) (hD.sub [0, 1] (by decide) rfl) (by show ((100 : Int32), fi2, ku, (0 : Int32), (0 : Int32), (kn + (1 : Int32)), (0 : Int32), (0 : Int32)) = FIN; rw [hF, g_X6_item_lp]; rw [if_pos c_1001]; try rfl)
    · refine lv_aload_n hx hb dX6_item_149 rfl (lv_at hl 0 rfl) ?_
      refine va_get (D := D) hx hb hts hiX6 hown hK.1 hP 0 rfl rfl 6 (by decide) (hts (.fieldLink RX6 16 "FencePilotModel" "item" "[I") (by decide +kernel)) (fun _ h9 => h9) rfl dX6_item_150 ?_
      refine lv_iload hx hb dX6_item_153 (lv_at hl 5 rfl) ?_
      refine lv_aload_n hx hb dX6_item_155 rfl (lv_at hl 0 rfl) ?_
      refine va_get (D := D) hx hb hts hiX6 hown hK.1 hP 0 rfl rfl 6 (by decide) (hts (.fieldLink RX6 16 "FencePilotModel" "item" "[I") (by decide +kernel)) (fun _ h9 => h9) rfl dX6_item_156 ?_
      refine lv_bipush (v := 24) hx hb dX6_item_159 (by decide) ?_
      refine lv_iload hx hb dX6_item_161 (lv_at hl 5 rfl) ?_
      refine lv_iadd hx hb dX6_item_163 ?_
      refine va_iald hx hb hK.1 hP 1 0 rfl rfl (kk_Lix' (kk_Lda (kk_IL (b := 23) hI c_1001 (by decide)) (by decide) (j := 24) rfl (by decide) (by decide)) (by decide)) dX6_item_164 ?_
      refine va_iast hx hb hK.1 hP hD hS 1 0 rfl rfl (kk_Iix hI c_1001 (by decide)) dX6_item_165 (fun H locs hP hD hS => ?_)
      have hP : va_P D vwCl [(o, .inr (6, [.int kg, .int kc, .ref kax, .ref kay, .int ke, .int ki, .ref kai, .int kw, .int ku, .int (kn + (1 : Int32)), .int (0 : Int32), .int (0 : Int32), .ref kah, .ref kas, .ref kap, .ref kad, .int kl, .int kz, .int kt, .int km, .int kf, .int kh, .ref kac])), (kai, .inl (cI, 48, .inl (upd fi2 ix.toNatClampNeg (fi2 ((24 : Int32) + ix).toNatClampNeg))))] H := hP
      have hD : va_D A [(o, .inr (6, [.int kg, .int kc, .ref kax, .ref kay, .int ke, .int ki, .ref kai, .int kw, .int ku, .int (kn + (1 : Int32)), .int (0 : Int32), .int (0 : Int32), .ref kah, .ref kas, .ref kap, .ref kad, .int kl, .int kz, .int kt, .int km, .int kf, .int kh, .ref kac])), (kai, .inl (cI, 48, .inl (upd fi2 ix.toNatClampNeg (fi2 ((24 : Int32) + ix).toNatClampNeg))))] := hD
      refine lv_iinc (v := (ix + 1)) (lv' := [(5, .int (ix + 1)), (0, .ref o), (1, .int k), (2, .int x), (3, .int y), (4, .int z)]) hx hb dX6_item_166 hl (k := 5) rfl (by first | rfl | decide) (by decide) rfl (fun ls hl => ?_)
      refine lv_goto (tgt := 142) hx hb dX6_item_169 (by decide) ?_
      exact ih (ix + 1) (upd fi2 ix.toNatClampNeg (fi2 ((24 : Int32) + ix).toNatClampNeg)) _ _ _ (kk_Iup hI c_1001) (by show FIN = (g_X6_item_lp kg kc ke ki kw ku kn kq kr kl kz kt km kf kh fi k x y z fuel (ix + 1) (upd fi2 ix.toNatClampNeg (fi2 ((24 : Int32) + ix).toNatClampNeg))); rw [hF, g_X6_item_lp]; rw [if_neg c_1001]; try rfl) (hP.sub [0, 1] rfl) (hD.sub [0, 1] (by decide) rfl) hS (lv_sub hl [1, 2, 3, 4, 5, 0] rfl)
set_option maxHeartbeats 4000000 in
set_option maxRecDepth 100000 in
theorem k_X6_item (l : Launch) (D : va_G) (cI cZ : ClassId) (o : Nat) (kax : Nat) (kay : Nat) (kai : Nat) (kah : Nat) (kas : Nat) (kap : Nat) (kad : Nat) (kac : Nat) (sz : Nat) (kg : Int32) (kc : Int32) (ke : Int32) (ki : Int32) (kw : Int32) (ku : Int32) (kn : Int32) (kq : Int32) (kr : Int32) (kl : Int32) (kz : Int32) (kt : Int32) (km : Int32) (kf : Int32) (kh : Int32) (fi : Nat → Int32) (k : Int32) (x : Int32) (y : Int32) (z : Int32) (hwn : ¬ ku = 0 → kk_L kn 7) : kk_Mi l D cI cZ yX6_item wsX6_item ({ frames := 1, cells := 0, slots := 0, locals := 22 } : Room) [.ref o, .int k, .int x, .int y, .int z] sz [(o, .inr (6, [.int kg, .int kc, .ref kax, .ref kay, .int ke, .int ki, .ref kai, .int kw, .int ku, .int kn, .int kq, .int kr, .ref kah, .ref kas, .ref kap, .ref kad, .int kl, .int kz, .int kt, .int km, .int kf, .int kh, .ref kac])), (kai, .inl (cI, 48, .inl fi))] (fun (r : Int32) (u : (Nat → Int32) × Int32 × Int32 × Int32 × Int32 × Int32 × Int32) => (r, u) = f_X6_item kg kc ke ki kw ku kn kq kr kl kz kt km kf kh fi k x y z) (fun u => [(o, .inr (6, [.int kg, .int kc, .ref kax, .ref kay, .int ke, .int u.2.1, .ref kai, .int u.2.2.1, .int u.2.2.2.1, .int u.2.2.2.2.1, .int u.2.2.2.2.2.1, .int u.2.2.2.2.2.2, .ref kah, .ref kas, .ref kap, .ref kad, .int kl, .int kz, .int kt, .int km, .int kf, .int kh, .ref kac])), (kai, .inl (cI, 48, .inl u.1))]) 0 0 := by
  refine kk_enti (cc := cX6_item) (maxL := 6) (ret := (some .int)) (by decide +kernel) rfl (Nat.le_of_ble_eq_true rfl) (fun p e s m args below meth c A ls hX hP hD hS hl => ?_)
  have hX0 := hX
  obtain ⟨hx, hb, hml, hown, hts, hr, hlk, hnm, hK, hA⟩ := hX
  have hown : s.vm.findClass RX6 = some m.cls := hown
  have hiX6 : ∀ w ∈ wsX60, w ∈ wsX6_item := by decide +kernel
  have hl : lv_has ls 6 [(0, .ref o), (1, .int k), (2, .int x), (3, .int y), (4, .int z)] := hl
  refine lv_aload_n hx hb dX6_item_0 rfl (lv_at hl 0 rfl) ?_
  refine va_get (D := D) hx hb hts hiX6 hown hK.1 hP 0 rfl rfl 8 (by decide) (hts (.fieldLink RX6 78 "FencePilotModel" "uploads" "I") (by decide +kernel)) (fun _ h9 => h9) rfl dX6_item_1 ?_
  refine lv_if_ne (tgt := 10) hx hb dX6_item_4 (by decide) (fun c_1 => ?_) (fun c_1 => ?_)
  · refine lv_iload_n hx hb dX6_item_10 rfl (lv_at hl 2 rfl) ?_
    refine lv_sipush (v := -10000) hx hb dX6_item_11 (by decide) ?_
    refine lv_sipush (v := 10000) hx hb dX6_item_14 (by decide) ?_
    refine kk_cSi (wc := []) (wr := [(o, .inr (6, [.int kg, .int kc, .ref kax, .ref kay, .int ke, .int ki, .ref kai, .int kw, .int ku, .int kn, .int kq, .int kr, .ref kah, .ref kas, .ref kap, .ref kad, .int kl, .int kz, .int kt, .int km, .int kf, .int kh, .ref kac])), (kai, .inl (cI, 48, .inl fi))]) ⟨hx, hb, hml, hown, hts⟩ hK hP hD hS hA [] [0, 1] (k_X6_within l D cI cZ  s.heap.size x (-10000 : Int32) (10000 : Int32)) (va_cwS 3 hts gX6_item_X6_within rfl rfl rfl (by decide +kernel) ⟨(Nat.le_of_ble_eq_true rfl), (Nat.le_of_ble_eq_true rfl)⟩) rfl rfl (by decide) (by decide) (by decide) rfl hl.1 rfl (Nat.le_of_ble_eq_true rfl) dX6_item_17 ⟨(Nat.le_of_ble_eq_true rfl), (Nat.le_of_ble_eq_true rfl)⟩ (fun r_2 u H locs hw_3 hP hD hS => ?_)
    have hw_3 : (f_X6_within x (-10000 : Int32) (10000 : Int32)) = r_2 := (hw_3 : r_2 = (f_X6_within x (-10000 : Int32) (10000 : Int32))).symm
    subst hw_3
    have hP : va_P D vwCl [(o, .inr (6, [.int kg, .int kc, .ref kax, .ref kay, .int ke, .int ki, .ref kai, .int kw, .int ku, .int kn, .int kq, .int kr, .ref kah, .ref kas, .ref kap, .ref kad, .int kl, .int kz, .int kt, .int km, .int kf, .int kh, .ref kac])), (kai, .inl (cI, 48, .inl fi))] H := hP
    have hD : va_D A [(o, .inr (6, [.int kg, .int kc, .ref kax, .ref kay, .int ke, .int ki, .ref kai, .int kw, .int ku, .int kn, .int kq, .int kr, .ref kah, .ref kas, .ref kap, .ref kad, .int kl, .int kz, .int kt, .int km, .int kf, .int kh, .ref kac])), (kai, .inl (cI, 48, .inl fi))] := hD
    refine lv_if_eq (tgt := 50) hx hb dX6_item_20 (by decide) (fun c_4 => ?_) (fun c_4 => ?_)
    · refine lv_bipush (v := -5) hx hb dX6_item_50 (by decide) ?_
      exact kk_ri (fi, ki, kw, ku, kn, kq, kr) hx hb hr hlk dX6_item_52 hS (hP.sub [0, 1] rfl) (hD.sub [0, 1] (by decide) rfl) (by show ((-5 : Int32), fi, ki, kw, ku, kn, kq, kr) = f_X6_item kg kc ke ki kw ku kn kq kr kl kz kt km kf kh fi k x y z; unfold f_X6_item; rw [if_neg c_1]; rw [if_pos c_4]; try rfl)
    · refine lv_iload_n hx hb dX6_item_23 rfl (lv_at hl 3 rfl) ?_
      refine lv_sipush (v := -10000) hx hb dX6_item_24 (by decide) ?_
      refine lv_sipush (v := 10000) hx hb dX6_item_27 (by decide) ?_
      refine kk_cSi (wc := []) (wr := [(o, .inr (6, [.int kg, .int kc, .ref kax, .ref kay, .int ke, .int ki, .ref kai, .int kw, .int ku, .int kn, .int kq, .int kr, .ref kah, .ref kas, .ref kap, .ref kad, .int kl, .int kz, .int kt, .int km, .int kf, .int kh, .ref kac])), (kai, .inl (cI, 48, .inl fi))]) ⟨hx, hb, hml, hown, hts⟩ hK hP hD hS hA [] [0, 1] (k_X6_within l D cI cZ  H.size y (-10000 : Int32) (10000 : Int32)) (va_cwS 3 hts gX6_item_X6_within rfl rfl rfl (by decide +kernel) ⟨(Nat.le_of_ble_eq_true rfl), (Nat.le_of_ble_eq_true rfl)⟩) rfl rfl (by decide) (by decide) (by decide) rfl hl.1 rfl (Nat.le_of_ble_eq_true rfl) dX6_item_30 ⟨(Nat.le_of_ble_eq_true rfl), (Nat.le_of_ble_eq_true rfl)⟩ (fun r_5 u H locs hw_6 hP hD hS => ?_)
      have hw_6 : (f_X6_within y (-10000 : Int32) (10000 : Int32)) = r_5 := (hw_6 : r_5 = (f_X6_within y (-10000 : Int32) (10000 : Int32))).symm
      subst hw_6
      have hP : va_P D vwCl [(o, .inr (6, [.int kg, .int kc, .ref kax, .ref kay, .int ke, .int ki, .ref kai, .int kw, .int ku, .int kn, .int kq, .int kr, .ref kah, .ref kas, .ref kap, .ref kad, .int kl, .int kz, .int kt, .int km, .int kf, .int kh, .ref kac])), (kai, .inl (cI, 48, .inl fi))] H := hP
      have hD : va_D A [(o, .inr (6, [.int kg, .int kc, .ref kax, .ref kay, .int ke, .int ki, .ref kai, .int kw, .int ku, .int kn, .int kq, .int kr, .ref kah, .ref kas, .ref kap, .ref kad, .int kl, .int kz, .int kt, .int km, .int kf, .int kh, .ref kac])), (kai, .inl (cI, 48, .inl fi))] := hD
      refine lv_if_eq (tgt := 50) hx hb dX6_item_33 (by decide) (fun c_7 => ?_) (fun c_7 => ?_)
      · refine lv_bipush (v := -5) hx hb dX6_item_50 (by decide) ?_
        exact kk_ri (fi, ki, kw, ku, kn, kq, kr) hx hb hr hlk dX6_item_52 hS (hP.sub [0, 1] rfl) (hD.sub [0, 1] (by decide) rfl) (by show ((-5 : Int32), fi, ki, kw, ku, kn, kq, kr) = f_X6_item kg kc ke ki kw ku kn kq kr kl kz kt km kf kh fi k x y z; unfold f_X6_item; rw [if_neg c_1]; rw [if_neg c_4]; rw [if_pos c_7]; try rfl)
      · refine lv_iload hx hb dX6_item_36 (lv_at hl 4 rfl) ?_
        refine lv_sipush (v := 500) hx hb dX6_item_38 (by decide) ?_
        refine lv_sipush (v := 10000) hx hb dX6_item_41 (by decide) ?_
        refine kk_cSi (wc := []) (wr := [(o, .inr (6, [.int kg, .int kc, .ref kax, .ref kay, .int ke, .int ki, .ref kai, .int kw, .int ku, .int kn, .int kq, .int kr, .ref kah, .ref kas, .ref kap, .ref kad, .int kl, .int kz, .int kt, .int km, .int kf, .int kh, .ref kac])), (kai, .inl (cI, 48, .inl fi))]) ⟨hx, hb, hml, hown, hts⟩ hK hP hD hS hA [] [0, 1] (k_X6_within l D cI cZ  H.size z (500 : Int32) (10000 : Int32)) (va_cwS 3 hts gX6_item_X6_within rfl rfl rfl (by decide +kernel) ⟨(Nat.le_of_ble_eq_true rfl), (Nat.le_of_ble_eq_true rfl)⟩) rfl rfl (by decide) (by decide) (by decide) rfl hl.1 rfl (Nat.le_of_ble_eq_true rfl) dX6_item_44 ⟨(Nat.le_of_ble_eq_true rfl), (Nat.le_of_ble_eq_true rfl)⟩ (fun r_8 u H locs hw_9 hP hD hS => ?_)
        have hw_9 : (f_X6_within z (500 : Int32) (10000 : Int32)) = r_8 := (hw_9 : r_8 = (f_X6_within z (500 : Int32) (10000 : Int32))).symm
        subst hw_9
        have hP : va_P D vwCl [(o, .inr (6, [.int kg, .int kc, .ref kax, .ref kay, .int ke, .int ki, .ref kai, .int kw, .int ku, .int kn, .int kq, .int kr, .ref kah, .ref kas, .ref kap, .ref kad, .int kl, .int kz, .int kt, .int km, .int kf, .int kh, .ref kac])), (kai, .inl (cI, 48, .inl fi))] H := hP
        have hD : va_D A [(o, .inr (6, [.int kg, .int kc, .ref kax, .ref kay, .int ke, .int ki, .ref kai, .int kw, .int ku, .int kn, .int kq, .int kr, .ref kah, .ref kas, .ref kap, .ref kad, .int kl, .int kz, .int kt, .int km, .int kf, .int kh, .ref kac])), (kai, .inl (cI, 48, .inl fi))] := hD
        refine lv_if_ne (tgt := 53) hx hb dX6_item_47 (by decide) (fun c_10 => ?_) (fun c_10 => ?_)
        · refine lv_iload_n hx hb dX6_item_53 rfl (lv_at hl 1 rfl) ?_
          refine lv_aload_n hx hb dX6_item_54 rfl (lv_at hl 0 rfl) ?_
          refine va_get (D := D) hx hb hts hiX6 hown hK.1 hP 0 rfl rfl 9 (by decide) (hts (.fieldLink RX6 81 "FencePilotModel" "wanted" "I") (by decide +kernel)) (fun _ h9 => h9) rfl dX6_item_55 ?_
          refine lv_icmp_eq (tgt := 66) hx hb dX6_item_58 (by decide) (fun c_11 => ?_) (fun c_11 => ?_)
          · refine lv_aload_n hx hb dX6_item_66 rfl (lv_at hl 0 rfl) ?_
            refine va_get (D := D) hx hb hts hiX6 hown hK.1 hP 0 rfl rfl 6 (by decide) (hts (.fieldLink RX6 16 "FencePilotModel" "item" "[I") (by decide +kernel)) (fun _ h9 => h9) rfl dX6_item_67 ?_
            refine lv_bipush (v := 24) hx hb dX6_item_70 (by decide) ?_
            refine lv_iconst (v := 3) hx hb dX6_item_72 (by decide) ?_
            refine lv_iload_n hx hb dX6_item_73 rfl (lv_at hl 1 rfl) ?_
            refine lv_imul hx hb dX6_item_74 ?_
            refine lv_iadd hx hb dX6_item_75 ?_
            refine lv_iload_n hx hb dX6_item_76 rfl (lv_at hl 2 rfl) ?_
            refine va_iast hx hb hK.1 hP hD hS 1 0 rfl rfl (kk_Lix' (kk_M3 (a := k) (by rw [c_11]; exact hwn c_1) (by decide) (j := 24) rfl (by decide) (by decide)) (by decide)) dX6_item_77 (fun H locs hP hD hS => ?_)
            have hP : va_P D vwCl [(o, .inr (6, [.int kg, .int kc, .ref kax, .ref kay, .int ke, .int ki, .ref kai, .int kw, .int ku, .int kn, .int kq, .int kr, .ref kah, .ref kas, .ref kap, .ref kad, .int kl, .int kz, .int kt, .int km, .int kf, .int kh, .ref kac])), (kai, .inl (cI, 48, .inl (upd fi ((24 : Int32) + ((3 : Int32) * k)).toNatClampNeg x)))] H := hP
            have hD : va_D A [(o, .inr (6, [.int kg, .int kc, .ref kax, .ref kay, .int ke, .int ki, .ref kai, .int kw, .int ku, .int kn, .int kq, .int kr, .ref kah, .ref kas, .ref kap, .ref kad, .int kl, .int kz, .int kt, .int km, .int kf, .int kh, .ref kac])), (kai, .inl (cI, 48, .inl (upd fi ((24 : Int32) + ((3 : Int32) * k)).toNatClampNeg x)))] := hD
            refine lv_aload_n hx hb dX6_item_78 rfl (lv_at hl 0 rfl) ?_
            refine va_get (D := D) hx hb hts hiX6 hown hK.1 hP 0 rfl rfl 6 (by decide) (hts (.fieldLink RX6 16 "FencePilotModel" "item" "[I") (by decide +kernel)) (fun _ h9 => h9) rfl dX6_item_79 ?_
            refine lv_bipush (v := 25) hx hb dX6_item_82 (by decide) ?_
            refine lv_iconst (v := 3) hx hb dX6_item_84 (by decide) ?_
            refine lv_iload_n hx hb dX6_item_85 rfl (lv_at hl 1 rfl) ?_
            refine lv_imul hx hb dX6_item_86 ?_
            refine lv_iadd hx hb dX6_item_87 ?_
            refine lv_iload_n hx hb dX6_item_88 rfl (lv_at hl 3 rfl) ?_
            refine va_iast hx hb hK.1 hP hD hS 1 0 rfl rfl (kk_Lix' (kk_M3 (a := k) (by rw [c_11]; exact hwn c_1) (by decide) (j := 25) rfl (by decide) (by decide)) (by decide)) dX6_item_89 (fun H locs hP hD hS => ?_)
            have hP : va_P D vwCl [(o, .inr (6, [.int kg, .int kc, .ref kax, .ref kay, .int ke, .int ki, .ref kai, .int kw, .int ku, .int kn, .int kq, .int kr, .ref kah, .ref kas, .ref kap, .ref kad, .int kl, .int kz, .int kt, .int km, .int kf, .int kh, .ref kac])), (kai, .inl (cI, 48, .inl (upd (upd fi ((24 : Int32) + ((3 : Int32) * k)).toNatClampNeg x) ((25 : Int32) + ((3 : Int32) * k)).toNatClampNeg y)))] H := hP
            have hD : va_D A [(o, .inr (6, [.int kg, .int kc, .ref kax, .ref kay, .int ke, .int ki, .ref kai, .int kw, .int ku, .int kn, .int kq, .int kr, .ref kah, .ref kas, .ref kap, .ref kad, .int kl, .int kz, .int kt, .int km, .int kf, .int kh, .ref kac])), (kai, .inl (cI, 48, .inl (upd (upd fi ((24 : Int32) + ((3 : Int32) * k)).toNatClampNeg x) ((25 : Int32) + ((3 : Int32) * k)).toNatClampNeg y)))] := hD
            refine lv_aload_n hx hb dX6_item_90 rfl (lv_at hl 0 rfl) ?_
            refine va_get (D := D) hx hb hts hiX6 hown hK.1 hP 0 rfl rfl 6 (by decide) (hts (.fieldLink RX6 16 "FencePilotModel" "item" "[I") (by decide +kernel)) (fun _ h9 => h9) rfl dX6_item_91 ?_
            refine lv_bipush (v := 26) hx hb dX6_item_94 (by decide) ?_
            refine lv_iconst (v := 3) hx hb dX6_item_96 (by decide) ?_
            refine lv_iload_n hx hb dX6_item_97 rfl (lv_at hl 1 rfl) ?_
            refine lv_imul hx hb dX6_item_98 ?_
            refine lv_iadd hx hb dX6_item_99 ?_
            refine lv_iload hx hb dX6_item_100 (lv_at hl 4 rfl) ?_
            refine va_iast hx hb hK.1 hP hD hS 1 0 rfl rfl (kk_Lix' (kk_M3 (a := k) (by rw [c_11]; exact hwn c_1) (by decide) (j := 26) rfl (by decide) (by decide)) (by decide)) dX6_item_102 (fun H locs hP hD hS => ?_)
            have hP : va_P D vwCl [(o, .inr (6, [.int kg, .int kc, .ref kax, .ref kay, .int ke, .int ki, .ref kai, .int kw, .int ku, .int kn, .int kq, .int kr, .ref kah, .ref kas, .ref kap, .ref kad, .int kl, .int kz, .int kt, .int km, .int kf, .int kh, .ref kac])), (kai, .inl (cI, 48, .inl (upd (upd (upd fi ((24 : Int32) + ((3 : Int32) * k)).toNatClampNeg x) ((25 : Int32) + ((3 : Int32) * k)).toNatClampNeg y) ((26 : Int32) + ((3 : Int32) * k)).toNatClampNeg z)))] H := hP
            have hD : va_D A [(o, .inr (6, [.int kg, .int kc, .ref kax, .ref kay, .int ke, .int ki, .ref kai, .int kw, .int ku, .int kn, .int kq, .int kr, .ref kah, .ref kas, .ref kap, .ref kad, .int kl, .int kz, .int kt, .int km, .int kf, .int kh, .ref kac])), (kai, .inl (cI, 48, .inl (upd (upd (upd fi ((24 : Int32) + ((3 : Int32) * k)).toNatClampNeg x) ((25 : Int32) + ((3 : Int32) * k)).toNatClampNeg y) ((26 : Int32) + ((3 : Int32) * k)).toNatClampNeg z)))] := hD
            refine lv_aload_n hx hb dX6_item_103 rfl (lv_at hl 0 rfl) ?_
            refine lv_iconst (v := 0) hx hb dX6_item_104 (by decide) ?_
            refine va_put (D := D) (ci := 6) (v := .int (0 : Int32)) (ty := .int) (C := RX6) (T := TX6) (N := 23) hx hb hts hiX6 tyX6 tyX6_ok nmX6 hown hK.1 hP hD hS 0 rfl rfl 10 (by decide) (hts (.fieldLink RX6 84 "FencePilotModel" "age" "I") (by decide +kernel)) (fun _ h9 => h9) rfl (by decide +kernel) rfl rfl (Nat.le_of_ble_eq_true rfl) dX6_item_105 (fun H locs hP hD hS => ?_)
            have hP : va_P D vwCl [(o, .inr (6, [.int kg, .int kc, .ref kax, .ref kay, .int ke, .int ki, .ref kai, .int kw, .int ku, .int kn, .int (0 : Int32), .int kr, .ref kah, .ref kas, .ref kap, .ref kad, .int kl, .int kz, .int kt, .int km, .int kf, .int kh, .ref kac])), (kai, .inl (cI, 48, .inl (upd (upd (upd fi ((24 : Int32) + ((3 : Int32) * k)).toNatClampNeg x) ((25 : Int32) + ((3 : Int32) * k)).toNatClampNeg y) ((26 : Int32) + ((3 : Int32) * k)).toNatClampNeg z)))] H := hP
            have hD : va_D A [(o, .inr (6, [.int kg, .int kc, .ref kax, .ref kay, .int ke, .int ki, .ref kai, .int kw, .int ku, .int kn, .int (0 : Int32), .int kr, .ref kah, .ref kas, .ref kap, .ref kad, .int kl, .int kz, .int kt, .int km, .int kf, .int kh, .ref kac])), (kai, .inl (cI, 48, .inl (upd (upd (upd fi ((24 : Int32) + ((3 : Int32) * k)).toNatClampNeg x) ((25 : Int32) + ((3 : Int32) * k)).toNatClampNeg y) ((26 : Int32) + ((3 : Int32) * k)).toNatClampNeg z)))] := hD
            refine lv_aload_n hx hb dX6_item_108 rfl (lv_at hl 0 rfl) ?_
            refine lv_iconst (v := 0) hx hb dX6_item_109 (by decide) ?_
            refine va_put (D := D) (ci := 6) (v := .int (0 : Int32)) (ty := .int) (C := RX6) (T := TX6) (N := 23) hx hb hts hiX6 tyX6 tyX6_ok nmX6 hown hK.1 hP hD hS 0 rfl rfl 11 (by decide) (hts (.fieldLink RX6 87 "FencePilotModel" "repeats" "I") (by decide +kernel)) (fun _ h9 => h9) rfl (by decide +kernel) rfl rfl (Nat.le_of_ble_eq_true rfl) dX6_item_110 (fun H locs hP hD hS => ?_)
            have hP : va_P D vwCl [(o, .inr (6, [.int kg, .int kc, .ref kax, .ref kay, .int ke, .int ki, .ref kai, .int kw, .int ku, .int kn, .int (0 : Int32), .int (0 : Int32), .ref kah, .ref kas, .ref kap, .ref kad, .int kl, .int kz, .int kt, .int km, .int kf, .int kh, .ref kac])), (kai, .inl (cI, 48, .inl (upd (upd (upd fi ((24 : Int32) + ((3 : Int32) * k)).toNatClampNeg x) ((25 : Int32) + ((3 : Int32) * k)).toNatClampNeg y) ((26 : Int32) + ((3 : Int32) * k)).toNatClampNeg z)))] H := hP
            have hD : va_D A [(o, .inr (6, [.int kg, .int kc, .ref kax, .ref kay, .int ke, .int ki, .ref kai, .int kw, .int ku, .int kn, .int (0 : Int32), .int (0 : Int32), .ref kah, .ref kas, .ref kap, .ref kad, .int kl, .int kz, .int kt, .int km, .int kf, .int kh, .ref kac])), (kai, .inl (cI, 48, .inl (upd (upd (upd fi ((24 : Int32) + ((3 : Int32) * k)).toNatClampNeg x) ((25 : Int32) + ((3 : Int32) * k)).toNatClampNeg y) ((26 : Int32) + ((3 : Int32) * k)).toNatClampNeg z)))] := hD
            refine lv_aload_n hx hb dX6_item_113 rfl (lv_at hl 0 rfl) ?_
            refine lv_dup hx hb dX6_item_114 rfl ?_
            refine va_get (D := D) hx hb hts hiX6 hown hK.1 hP 0 rfl rfl 9 (by decide) (hts (.fieldLink RX6 81 "FencePilotModel" "wanted" "I") (by decide +kernel)) (fun _ h9 => h9) rfl dX6_item_115 ?_
            refine lv_iconst (v := 1) hx hb dX6_item_118 (by decide) ?_
            refine lv_iadd hx hb dX6_item_119 ?_
            refine va_put (D := D) (ci := 6) (v := .int (kn + (1 : Int32))) (ty := .int) (C := RX6) (T := TX6) (N := 23) hx hb hts hiX6 tyX6 tyX6_ok nmX6 hown hK.1 hP hD hS 0 rfl rfl 9 (by decide) (hts (.fieldLink RX6 81 "FencePilotModel" "wanted" "I") (by decide +kernel)) (fun _ h9 => h9) rfl (by decide +kernel) rfl rfl (Nat.le_of_ble_eq_true rfl) dX6_item_120 (fun H locs hP hD hS => ?_)
            have hP : va_P D vwCl [(o, .inr (6, [.int kg, .int kc, .ref kax, .ref kay, .int ke, .int ki, .ref kai, .int kw, .int ku, .int (kn + (1 : Int32)), .int (0 : Int32), .int (0 : Int32), .ref kah, .ref kas, .ref kap, .ref kad, .int kl, .int kz, .int kt, .int km, .int kf, .int kh, .ref kac])), (kai, .inl (cI, 48, .inl (upd (upd (upd fi ((24 : Int32) + ((3 : Int32) * k)).toNatClampNeg x) ((25 : Int32) + ((3 : Int32) * k)).toNatClampNeg y) ((26 : Int32) + ((3 : Int32) * k)).toNatClampNeg z)))] H := hP
            have hD : va_D A [(o, .inr (6, [.int kg, .int kc, .ref kax, .ref kay, .int ke, .int ki, .ref kai, .int kw, .int ku, .int (kn + (1 : Int32)), .int (0 : Int32), .int (0 : Int32), .ref kah, .ref kas, .ref kap, .ref kad, .int kl, .int kz, .int kt, .int km, .int kf, .int kh, .ref kac])), (kai, .inl (cI, 48, .inl (upd (upd (upd fi ((24 : Int32) + ((3 : Int32) * k)).toNatClampNeg x) ((25 : Int32) + ((3 : Int32) * k)).toNatClampNeg y) ((26 : Int32) + ((3 : Int32) * k)).toNatClampNeg z)))] := hD
            refine lv_aload_n hx hb dX6_item_123 rfl (lv_at hl 0 rfl) ?_
            refine va_get (D := D) hx hb hts hiX6 hown hK.1 hP 0 rfl rfl 9 (by decide) (hts (.fieldLink RX6 81 "FencePilotModel" "wanted" "I") (by decide +kernel)) (fun _ h9 => h9) rfl dX6_item_124 ?_
            refine lv_aload_n hx hb dX6_item_127 rfl (lv_at hl 0 rfl) ?_
            refine va_get (D := D) hx hb hts hiX6 hown hK.1 hP 0 rfl rfl 8 (by decide) (hts (.fieldLink RX6 78 "FencePilotModel" "uploads" "I") (by decide +kernel)) (fun _ h9 => h9) rfl dX6_item_128 ?_
            refine lv_icmp_ge (tgt := 139) hx hb dX6_item_131 (by decide) (fun c_12 => ?_) (fun c_12 => ?_)
            · refine lv_iconst (v := 0) hx hb dX6_item_139 (by decide) ?_
              refine lv_istore (lv' := [(5, .int (0 : Int32)), (0, .ref o), (1, .int k), (2, .int x), (3, .int y), (4, .int z)]) hx hb dX6_item_140 hl (by decide) rfl (fun ls hl => ?_)
              exact lp_X6_item_lp l D cI cZ o kax kay kai kah kas kap kad kac kg kc ke ki kw ku kn kq kr kl kz kt km kf kh fi k x y z hwn hX0 (f_X6_item kg kc ke ki kw ku kn kq kr kl kz kt km kf kh fi k x y z) 25 (0 : Int32) (upd (upd (upd fi ((24 : Int32) + ((3 : Int32) * k)).toNatClampNeg x) ((25 : Int32) + ((3 : Int32) * k)).toNatClampNeg y) ((26 : Int32) + ((3 : Int32) * k)).toNatClampNeg z) _ _ _ (kk_Ist 25 (by decide) (by decide)) (by show f_X6_item kg kc ke ki kw ku kn kq kr kl kz kt km kf kh fi k x y z = (g_X6_item_lp kg kc ke ki kw ku kn kq kr kl kz kt km kf kh fi k x y z 25 (0 : Int32) (upd (upd (upd fi ((24 : Int32) + ((3 : Int32) * k)).toNatClampNeg x) ((25 : Int32) + ((3 : Int32) * k)).toNatClampNeg y) ((26 : Int32) + ((3 : Int32) * k)).toNatClampNeg z)); unfold f_X6_item; rw [if_neg c_1]; rw [if_neg c_4]; rw [if_neg c_7]; rw [if_neg c_10]; rw [if_pos c_11]; rw [if_pos c_12]; try rfl) (hP.sub [0, 1] rfl) (hD.sub [0, 1] (by decide) rfl) hS (lv_sub hl [1, 2, 3, 4, 5, 0] rfl)
            · refine lv_aload_n hx hb dX6_item_134 rfl (lv_at hl 0 rfl) ?_
              refine va_get (D := D) hx hb hts hiX6 hown hK.1 hP 0 rfl rfl 9 (by decide) (hts (.fieldLink RX6 81 "FencePilotModel" "wanted" "I") (by decide +kernel)) (fun _ h9 => h9) rfl dX6_item_135 ?_
              exact kk_ri ((upd (upd (upd fi ((24 : Int32) + ((3 : Int32) * k)).toNatClampNeg x) ((25 : Int32) + ((3 : Int32) * k)).toNatClampNeg y) ((26 : Int32) + ((3 : Int32) * k)).toNatClampNeg z), ki, kw, ku, (kn + (1 : Int32)), (0 : Int32), (0 : Int32)) hx hb hr hlk dX6_item_138 hS (hP.sub [0, 1] rfl) (hD.sub [0, 1] (by decide) rfl) (by show ((kn + (1 : Int32)), (upd (upd (upd fi ((24 : Int32) + ((3 : Int32) * k)).toNatClampNeg x) ((25 : Int32) + ((3 : Int32) * k)).toNatClampNeg y) ((26 : Int32) + ((3 : Int32) * k)).toNatClampNeg z), ki, kw, ku, (kn + (1 : Int32)), (0 : Int32), (0 : Int32)) = f_X6_item kg kc ke ki kw ku kn kq kr kl kz kt km kf kh fi k x y z; unfold f_X6_item; rw [if_neg c_1]; rw [if_neg c_4]; rw [if_neg c_7]; rw [if_neg c_10]; rw [if_pos c_11]; rw [if_neg c_12]; try rfl)
          · refine lv_aload_n hx hb dX6_item_61 rfl (lv_at hl 0 rfl) ?_
            refine va_get (D := D) hx hb hts hiX6 hown hK.1 hP 0 rfl rfl 9 (by decide) (hts (.fieldLink RX6 81 "FencePilotModel" "wanted" "I") (by decide +kernel)) (fun _ h9 => h9) rfl dX6_item_62 ?_
            exact kk_ri (fi, ki, kw, ku, kn, kq, kr) hx hb hr hlk dX6_item_65 hS (hP.sub [0, 1] rfl) (hD.sub [0, 1] (by decide) rfl) (by show (kn, fi, ki, kw, ku, kn, kq, kr) = f_X6_item kg kc ke ki kw ku kn kq kr kl kz kt km kf kh fi k x y z; unfold f_X6_item; rw [if_neg c_1]; rw [if_neg c_4]; rw [if_neg c_7]; rw [if_neg c_10]; rw [if_neg c_11]; try rfl)
        · refine lv_bipush (v := -5) hx hb dX6_item_50 (by decide) ?_
          exact kk_ri (fi, ki, kw, ku, kn, kq, kr) hx hb hr hlk dX6_item_52 hS (hP.sub [0, 1] rfl) (hD.sub [0, 1] (by decide) rfl) (by show ((-5 : Int32), fi, ki, kw, ku, kn, kq, kr) = f_X6_item kg kc ke ki kw ku kn kq kr kl kz kt km kf kh fi k x y z; unfold f_X6_item; rw [if_neg c_1]; rw [if_neg c_4]; rw [if_neg c_7]; rw [if_pos c_10]; try rfl)
  · refine lv_bipush (v := -6) hx hb dX6_item_7 (by decide) ?_
    exact kk_ri (fi, ki, kw, ku, kn, kq, kr) hx hb hr hlk dX6_item_9 hS (hP.sub [0, 1] rfl) (hD.sub [0, 1] (by decide) rfl) (by show ((-6 : Int32), fi, ki, kw, ku, kn, kq, kr) = f_X6_item kg kc ke ki kw ku kn kq kr kl kz kt km kf kh fi k x y z; unfold f_X6_item; rw [if_pos c_1]; try rfl)
def f_X6_wanted (kg : Int32) (kc : Int32) (ke : Int32) (ki : Int32) (kw : Int32) (ku : Int32) (kn : Int32) (kq : Int32) (kr : Int32) (kl : Int32) (kz : Int32) (kt : Int32) (km : Int32) (kf : Int32) (kh : Int32) : Int32 := (if ku = (0 : Int32) then (-6 : Int32) else kn)
set_option maxHeartbeats 4000000 in
set_option maxRecDepth 100000 in
theorem k_X6_wanted (l : Launch) (D : va_G) (cI cZ : ClassId) (o : Nat) (kax : Nat) (kay : Nat) (kai : Nat) (kah : Nat) (kas : Nat) (kap : Nat) (kad : Nat) (kac : Nat) (sz : Nat) (kg : Int32) (kc : Int32) (ke : Int32) (ki : Int32) (kw : Int32) (ku : Int32) (kn : Int32) (kq : Int32) (kr : Int32) (kl : Int32) (kz : Int32) (kt : Int32) (km : Int32) (kf : Int32) (kh : Int32)   : kk_Mi l D cI cZ yX6_wanted wsX6_wanted ({ frames := 0, cells := 0, slots := 0, locals := 0 } : Room) [.ref o] sz [(o, .inr (6, [.int kg, .int kc, .ref kax, .ref kay, .int ke, .int ki, .ref kai, .int kw, .int ku, .int kn, .int kq, .int kr, .ref kah, .ref kas, .ref kap, .ref kad, .int kl, .int kz, .int kt, .int km, .int kf, .int kh, .ref kac]))] (fun (r : Int32) (_ : Unit) => r = f_X6_wanted kg kc ke ki kw ku kn kq kr kl kz kt km kf kh) (fun _ => [(o, .inr (6, [.int kg, .int kc, .ref kax, .ref kay, .int ke, .int ki, .ref kai, .int kw, .int ku, .int kn, .int kq, .int kr, .ref kah, .ref kas, .ref kap, .ref kad, .int kl, .int kz, .int kt, .int km, .int kf, .int kh, .ref kac]))]) 0 0 := by
  refine kk_enti (cc := cX6_wanted) (maxL := 1) (ret := (some .int)) (by decide +kernel) rfl (Nat.le_of_ble_eq_true rfl) (fun p e s m args below meth c A ls hX hP hD hS hl => ?_)
  obtain ⟨hx, hb, hml, hown, hts, hr, hlk, hnm, hK, hA⟩ := hX
  have hown : s.vm.findClass RX6 = some m.cls := hown
  have hiX6 : ∀ w ∈ wsX60, w ∈ wsX6_wanted := by decide +kernel
  have hl : lv_has ls 1 [(0, .ref o)] := hl
  refine lv_aload_n hx hb dX6_wanted_0 rfl (lv_at hl 0 rfl) ?_
  refine va_get (D := D) hx hb hts hiX6 hown hK.1 hP 0 rfl rfl 8 (by decide) (hts (.fieldLink RX6 78 "FencePilotModel" "uploads" "I") (by decide +kernel)) (fun _ h9 => h9) rfl dX6_wanted_1 ?_
  refine lv_if_ne (tgt := 12) hx hb dX6_wanted_4 (by decide) (fun c_1 => ?_) (fun c_1 => ?_)
  · refine lv_aload_n hx hb dX6_wanted_12 rfl (lv_at hl 0 rfl) ?_
    refine va_get (D := D) hx hb hts hiX6 hown hK.1 hP 0 rfl rfl 9 (by decide) (hts (.fieldLink RX6 81 "FencePilotModel" "wanted" "I") (by decide +kernel)) (fun _ h9 => h9) rfl dX6_wanted_13 ?_
    exact kk_ri () hx hb hr hlk dX6_wanted_16 hS (hP.sub [0] rfl) (hD.sub [0] (by decide) rfl) (by show kn = f_X6_wanted kg kc ke ki kw ku kn kq kr kl kz kt km kf kh; unfold f_X6_wanted; rw [if_neg c_1]; try rfl)
  · refine lv_bipush (v := -6) hx hb dX6_wanted_7 (by decide) ?_
    refine lv_goto (tgt := 16) hx hb dX6_wanted_9 (by decide) ?_
    exact kk_ri () hx hb hr hlk dX6_wanted_16 hS (hP.sub [0] rfl) (hD.sub [0] (by decide) rfl) (by show (-6 : Int32) = f_X6_wanted kg kc ke ki kw ku kn kq kr kl kz kt km kf kh; unfold f_X6_wanted; rw [if_pos c_1]; try rfl)
def f_X6_sample (kg : Int32) (kc : Int32) (ke : Int32) (ki : Int32) (kw : Int32) (ku : Int32) (kn : Int32) (kq : Int32) (kr : Int32) (kl : Int32) (kz : Int32) (kt : Int32) (km : Int32) (kf : Int32) (kh : Int32) (fh : Nat → Int32) (fs : Nat → Int32) (k : Int32) (x : Int32) (y : Int32) (z : Int32) : Int32 × (Nat → Int32) × (Nat → Int32) := (if (f_X6_within k (0 : Int32) (2 : Int32)) = (0 : Int32) then ((0 : Int32), fh, fs) else (if (f_X6_within x (-20000 : Int32) (20000 : Int32)) = (0 : Int32) then ((0 : Int32), fh, fs) else (if (f_X6_within y (-20000 : Int32) (20000 : Int32)) = (0 : Int32) then ((0 : Int32), fh, fs) else (if (f_X6_within z (-2000 : Int32) (20000 : Int32)) = (0 : Int32) then ((0 : Int32), fh, fs) else ((1 : Int32), (upd fh k.toNatClampNeg (vp_nar .boolean (1 : Int32))), (upd (upd (upd fs ((3 : Int32) * k).toNatClampNeg x) (((3 : Int32) * k) + (1 : Int32)).toNatClampNeg y) (((3 : Int32) * k) + (2 : Int32)).toNatClampNeg z))))))
set_option maxHeartbeats 4000000 in
set_option maxRecDepth 100000 in
theorem k_X6_sample (l : Launch) (D : va_G) (cI cZ : ClassId) (o : Nat) (kax : Nat) (kay : Nat) (kai : Nat) (kah : Nat) (kas : Nat) (kap : Nat) (kad : Nat) (kac : Nat) (sz : Nat) (kg : Int32) (kc : Int32) (ke : Int32) (ki : Int32) (kw : Int32) (ku : Int32) (kn : Int32) (kq : Int32) (kr : Int32) (kl : Int32) (kz : Int32) (kt : Int32) (km : Int32) (kf : Int32) (kh : Int32) (fh : Nat → Int32) (fs : Nat → Int32) (k : Int32) (x : Int32) (y : Int32) (z : Int32)  : kk_Mi l D cI cZ yX6_sample wsX6_sample ({ frames := 1, cells := 0, slots := 0, locals := 22 } : Room) [.ref o, .int k, .int x, .int y, .int z] sz [(o, .inr (6, [.int kg, .int kc, .ref kax, .ref kay, .int ke, .int ki, .ref kai, .int kw, .int ku, .int kn, .int kq, .int kr, .ref kah, .ref kas, .ref kap, .ref kad, .int kl, .int kz, .int kt, .int km, .int kf, .int kh, .ref kac])), (kah, .inl (cZ, 3, .inl fh)), (kas, .inl (cI, 9, .inl fs))] (fun (r : Int32) (u : (Nat → Int32) × (Nat → Int32)) => (r, u) = f_X6_sample kg kc ke ki kw ku kn kq kr kl kz kt km kf kh fh fs k x y z) (fun u => [(o, .inr (6, [.int kg, .int kc, .ref kax, .ref kay, .int ke, .int ki, .ref kai, .int kw, .int ku, .int kn, .int kq, .int kr, .ref kah, .ref kas, .ref kap, .ref kad, .int kl, .int kz, .int kt, .int km, .int kf, .int kh, .ref kac])), (kah, .inl (cZ, 3, .inl u.1)), (kas, .inl (cI, 9, .inl u.2))]) 0 0 := by
  refine kk_enti (cc := cX6_sample) (maxL := 5) (ret := (some .boolean)) (by decide +kernel) rfl (Nat.le_of_ble_eq_true rfl) (fun p e s m args below meth c A ls hX hP hD hS hl => ?_)
  obtain ⟨hx, hb, hml, hown, hts, hr, hlk, hnm, hK, hA⟩ := hX
  have hown : s.vm.findClass RX6 = some m.cls := hown
  have hiX6 : ∀ w ∈ wsX60, w ∈ wsX6_sample := by decide +kernel
  have hl : lv_has ls 5 [(0, .ref o), (1, .int k), (2, .int x), (3, .int y), (4, .int z)] := hl
  refine lv_iload_n hx hb dX6_sample_0 rfl (lv_at hl 1 rfl) ?_
  refine lv_iconst (v := 0) hx hb dX6_sample_1 (by decide) ?_
  refine lv_iconst (v := 2) hx hb dX6_sample_2 (by decide) ?_
  refine kk_cSi (wc := []) (wr := [(o, .inr (6, [.int kg, .int kc, .ref kax, .ref kay, .int ke, .int ki, .ref kai, .int kw, .int ku, .int kn, .int kq, .int kr, .ref kah, .ref kas, .ref kap, .ref kad, .int kl, .int kz, .int kt, .int km, .int kf, .int kh, .ref kac])), (kah, .inl (cZ, 3, .inl fh)), (kas, .inl (cI, 9, .inl fs))]) ⟨hx, hb, hml, hown, hts⟩ hK hP hD hS hA [] [0, 1, 2] (k_X6_within l D cI cZ  s.heap.size k (0 : Int32) (2 : Int32)) (va_cwS 3 hts gX6_sample_X6_within rfl rfl rfl (by decide +kernel) ⟨(Nat.le_of_ble_eq_true rfl), (Nat.le_of_ble_eq_true rfl)⟩) rfl rfl (by decide) (by decide) (by decide) rfl hl.1 rfl (Nat.le_of_ble_eq_true rfl) dX6_sample_3 ⟨(Nat.le_of_ble_eq_true rfl), (Nat.le_of_ble_eq_true rfl)⟩ (fun r_1 u H locs hw_2 hP hD hS => ?_)
  have hw_2 : (f_X6_within k (0 : Int32) (2 : Int32)) = r_1 := (hw_2 : r_1 = (f_X6_within k (0 : Int32) (2 : Int32))).symm
  subst hw_2
  have hP : va_P D vwCl [(o, .inr (6, [.int kg, .int kc, .ref kax, .ref kay, .int ke, .int ki, .ref kai, .int kw, .int ku, .int kn, .int kq, .int kr, .ref kah, .ref kas, .ref kap, .ref kad, .int kl, .int kz, .int kt, .int km, .int kf, .int kh, .ref kac])), (kah, .inl (cZ, 3, .inl fh)), (kas, .inl (cI, 9, .inl fs))] H := hP
  have hD : va_D A [(o, .inr (6, [.int kg, .int kc, .ref kax, .ref kay, .int ke, .int ki, .ref kai, .int kw, .int ku, .int kn, .int kq, .int kr, .ref kah, .ref kas, .ref kap, .ref kad, .int kl, .int kz, .int kt, .int km, .int kf, .int kh, .ref kac])), (kah, .inl (cZ, 3, .inl fh)), (kas, .inl (cI, 9, .inl fs))] := hD
  refine lv_if_eq (tgt := 49) hx hb dX6_sample_6 (by decide) (fun c_3 => ?_) (fun c_3 => ?_)
  · refine lv_iconst (v := 0) hx hb dX6_sample_49 (by decide) ?_
    exact kk_rz (fh, fs) hx hb hr hlk dX6_sample_50 hS (hP.sub [0, 1, 2] rfl) (hD.sub [0, 1, 2] (by decide) rfl) rfl (by show ((0 : Int32), fh, fs) = f_X6_sample kg kc ke ki kw ku kn kq kr kl kz kt km kf kh fh fs k x y z; unfold f_X6_sample; rw [if_pos c_3]; try rfl)
  · refine lv_iload_n hx hb dX6_sample_9 rfl (lv_at hl 2 rfl) ?_
    refine lv_sipush (v := -20000) hx hb dX6_sample_10 (by decide) ?_
    refine lv_sipush (v := 20000) hx hb dX6_sample_13 (by decide) ?_
    refine kk_cSi (wc := []) (wr := [(o, .inr (6, [.int kg, .int kc, .ref kax, .ref kay, .int ke, .int ki, .ref kai, .int kw, .int ku, .int kn, .int kq, .int kr, .ref kah, .ref kas, .ref kap, .ref kad, .int kl, .int kz, .int kt, .int km, .int kf, .int kh, .ref kac])), (kah, .inl (cZ, 3, .inl fh)), (kas, .inl (cI, 9, .inl fs))]) ⟨hx, hb, hml, hown, hts⟩ hK hP hD hS hA [] [0, 1, 2] (k_X6_within l D cI cZ  H.size x (-20000 : Int32) (20000 : Int32)) (va_cwS 3 hts gX6_sample_X6_within rfl rfl rfl (by decide +kernel) ⟨(Nat.le_of_ble_eq_true rfl), (Nat.le_of_ble_eq_true rfl)⟩) rfl rfl (by decide) (by decide) (by decide) rfl hl.1 rfl (Nat.le_of_ble_eq_true rfl) dX6_sample_16 ⟨(Nat.le_of_ble_eq_true rfl), (Nat.le_of_ble_eq_true rfl)⟩ (fun r_4 u H locs hw_5 hP hD hS => ?_)
    have hw_5 : (f_X6_within x (-20000 : Int32) (20000 : Int32)) = r_4 := (hw_5 : r_4 = (f_X6_within x (-20000 : Int32) (20000 : Int32))).symm
    subst hw_5
    have hP : va_P D vwCl [(o, .inr (6, [.int kg, .int kc, .ref kax, .ref kay, .int ke, .int ki, .ref kai, .int kw, .int ku, .int kn, .int kq, .int kr, .ref kah, .ref kas, .ref kap, .ref kad, .int kl, .int kz, .int kt, .int km, .int kf, .int kh, .ref kac])), (kah, .inl (cZ, 3, .inl fh)), (kas, .inl (cI, 9, .inl fs))] H := hP
    have hD : va_D A [(o, .inr (6, [.int kg, .int kc, .ref kax, .ref kay, .int ke, .int ki, .ref kai, .int kw, .int ku, .int kn, .int kq, .int kr, .ref kah, .ref kas, .ref kap, .ref kad, .int kl, .int kz, .int kt, .int km, .int kf, .int kh, .ref kac])), (kah, .inl (cZ, 3, .inl fh)), (kas, .inl (cI, 9, .inl fs))] := hD
    refine lv_if_eq (tgt := 49) hx hb dX6_sample_19 (by decide) (fun c_6 => ?_) (fun c_6 => ?_)
    · refine lv_iconst (v := 0) hx hb dX6_sample_49 (by decide) ?_
      exact kk_rz (fh, fs) hx hb hr hlk dX6_sample_50 hS (hP.sub [0, 1, 2] rfl) (hD.sub [0, 1, 2] (by decide) rfl) rfl (by show ((0 : Int32), fh, fs) = f_X6_sample kg kc ke ki kw ku kn kq kr kl kz kt km kf kh fh fs k x y z; unfold f_X6_sample; rw [if_neg c_3]; rw [if_pos c_6]; try rfl)
    · refine lv_iload_n hx hb dX6_sample_22 rfl (lv_at hl 3 rfl) ?_
      refine lv_sipush (v := -20000) hx hb dX6_sample_23 (by decide) ?_
      refine lv_sipush (v := 20000) hx hb dX6_sample_26 (by decide) ?_
      refine kk_cSi (wc := []) (wr := [(o, .inr (6, [.int kg, .int kc, .ref kax, .ref kay, .int ke, .int ki, .ref kai, .int kw, .int ku, .int kn, .int kq, .int kr, .ref kah, .ref kas, .ref kap, .ref kad, .int kl, .int kz, .int kt, .int km, .int kf, .int kh, .ref kac])), (kah, .inl (cZ, 3, .inl fh)), (kas, .inl (cI, 9, .inl fs))]) ⟨hx, hb, hml, hown, hts⟩ hK hP hD hS hA [] [0, 1, 2] (k_X6_within l D cI cZ  H.size y (-20000 : Int32) (20000 : Int32)) (va_cwS 3 hts gX6_sample_X6_within rfl rfl rfl (by decide +kernel) ⟨(Nat.le_of_ble_eq_true rfl), (Nat.le_of_ble_eq_true rfl)⟩) rfl rfl (by decide) (by decide) (by decide) rfl hl.1 rfl (Nat.le_of_ble_eq_true rfl) dX6_sample_29 ⟨(Nat.le_of_ble_eq_true rfl), (Nat.le_of_ble_eq_true rfl)⟩ (fun r_7 u H locs hw_8 hP hD hS => ?_)
      have hw_8 : (f_X6_within y (-20000 : Int32) (20000 : Int32)) = r_7 := (hw_8 : r_7 = (f_X6_within y (-20000 : Int32) (20000 : Int32))).symm
      subst hw_8
      have hP : va_P D vwCl [(o, .inr (6, [.int kg, .int kc, .ref kax, .ref kay, .int ke, .int ki, .ref kai, .int kw, .int ku, .int kn, .int kq, .int kr, .ref kah, .ref kas, .ref kap, .ref kad, .int kl, .int kz, .int kt, .int km, .int kf, .int kh, .ref kac])), (kah, .inl (cZ, 3, .inl fh)), (kas, .inl (cI, 9, .inl fs))] H := hP
      have hD : va_D A [(o, .inr (6, [.int kg, .int kc, .ref kax, .ref kay, .int ke, .int ki, .ref kai, .int kw, .int ku, .int kn, .int kq, .int kr, .ref kah, .ref kas, .ref kap, .ref kad, .int kl, .int kz, .int kt, .int km, .int kf, .int kh, .ref kac])), (kah, .inl (cZ, 3, .inl fh)), (kas, .inl (cI, 9, .inl fs))] := hD
      refine lv_if_eq (tgt := 49) hx hb dX6_sample_32 (by decide) (fun c_9 => ?_) (fun c_9 => ?_)
      · refine lv_iconst (v := 0) hx hb dX6_sample_49 (by decide) ?_
        exact kk_rz (fh, fs) hx hb hr hlk dX6_sample_50 hS (hP.sub [0, 1, 2] rfl) (hD.sub [0, 1, 2] (by decide) rfl) rfl (by show ((0 : Int32), fh, fs) = f_X6_sample kg kc ke ki kw ku kn kq kr kl kz kt km kf kh fh fs k x y z; unfold f_X6_sample; rw [if_neg c_3]; rw [if_neg c_6]; rw [if_pos c_9]; try rfl)
      · refine lv_iload hx hb dX6_sample_35 (lv_at hl 4 rfl) ?_
        refine lv_sipush (v := -2000) hx hb dX6_sample_37 (by decide) ?_
        refine lv_sipush (v := 20000) hx hb dX6_sample_40 (by decide) ?_
        refine kk_cSi (wc := []) (wr := [(o, .inr (6, [.int kg, .int kc, .ref kax, .ref kay, .int ke, .int ki, .ref kai, .int kw, .int ku, .int kn, .int kq, .int kr, .ref kah, .ref kas, .ref kap, .ref kad, .int kl, .int kz, .int kt, .int km, .int kf, .int kh, .ref kac])), (kah, .inl (cZ, 3, .inl fh)), (kas, .inl (cI, 9, .inl fs))]) ⟨hx, hb, hml, hown, hts⟩ hK hP hD hS hA [] [0, 1, 2] (k_X6_within l D cI cZ  H.size z (-2000 : Int32) (20000 : Int32)) (va_cwS 3 hts gX6_sample_X6_within rfl rfl rfl (by decide +kernel) ⟨(Nat.le_of_ble_eq_true rfl), (Nat.le_of_ble_eq_true rfl)⟩) rfl rfl (by decide) (by decide) (by decide) rfl hl.1 rfl (Nat.le_of_ble_eq_true rfl) dX6_sample_43 ⟨(Nat.le_of_ble_eq_true rfl), (Nat.le_of_ble_eq_true rfl)⟩ (fun r_10 u H locs hw_11 hP hD hS => ?_)
        have hw_11 : (f_X6_within z (-2000 : Int32) (20000 : Int32)) = r_10 := (hw_11 : r_10 = (f_X6_within z (-2000 : Int32) (20000 : Int32))).symm
        subst hw_11
        have hP : va_P D vwCl [(o, .inr (6, [.int kg, .int kc, .ref kax, .ref kay, .int ke, .int ki, .ref kai, .int kw, .int ku, .int kn, .int kq, .int kr, .ref kah, .ref kas, .ref kap, .ref kad, .int kl, .int kz, .int kt, .int km, .int kf, .int kh, .ref kac])), (kah, .inl (cZ, 3, .inl fh)), (kas, .inl (cI, 9, .inl fs))] H := hP
        have hD : va_D A [(o, .inr (6, [.int kg, .int kc, .ref kax, .ref kay, .int ke, .int ki, .ref kai, .int kw, .int ku, .int kn, .int kq, .int kr, .ref kah, .ref kas, .ref kap, .ref kad, .int kl, .int kz, .int kt, .int km, .int kf, .int kh, .ref kac])), (kah, .inl (cZ, 3, .inl fh)), (kas, .inl (cI, 9, .inl fs))] := hD
        refine lv_if_ne (tgt := 51) hx hb dX6_sample_46 (by decide) (fun c_12 => ?_) (fun c_12 => ?_)
        · refine lv_aload_n hx hb dX6_sample_51 rfl (lv_at hl 0 rfl) ?_
          refine va_get (D := D) hx hb hts hiX6 hown hK.1 hP 0 rfl rfl 12 (by decide) (hts (.fieldLink RX6 19 "FencePilotModel" "has" "[Z") (by decide +kernel)) (fun _ h9 => h9) rfl dX6_sample_52 ?_
          refine lv_iload_n hx hb dX6_sample_55 rfl (lv_at hl 1 rfl) ?_
          refine lv_iconst (v := 1) hx hb dX6_sample_56 (by decide) ?_
          refine va_zast hx hb hK.1 hP hD hS 1 1 rfl rfl (kk_Lix' (kk_wi6L (b := 2) c_3 rfl (by decide)) (by decide)) dX6_sample_57 (fun H locs hP hD hS => ?_)
          have hP : va_P D vwCl [(o, .inr (6, [.int kg, .int kc, .ref kax, .ref kay, .int ke, .int ki, .ref kai, .int kw, .int ku, .int kn, .int kq, .int kr, .ref kah, .ref kas, .ref kap, .ref kad, .int kl, .int kz, .int kt, .int km, .int kf, .int kh, .ref kac])), (kah, .inl (cZ, 3, .inl (upd fh k.toNatClampNeg (vp_nar .boolean (1 : Int32))))), (kas, .inl (cI, 9, .inl fs))] H := hP
          have hD : va_D A [(o, .inr (6, [.int kg, .int kc, .ref kax, .ref kay, .int ke, .int ki, .ref kai, .int kw, .int ku, .int kn, .int kq, .int kr, .ref kah, .ref kas, .ref kap, .ref kad, .int kl, .int kz, .int kt, .int km, .int kf, .int kh, .ref kac])), (kah, .inl (cZ, 3, .inl (upd fh k.toNatClampNeg (vp_nar .boolean (1 : Int32))))), (kas, .inl (cI, 9, .inl fs))] := hD
          refine lv_aload_n hx hb dX6_sample_58 rfl (lv_at hl 0 rfl) ?_
          refine va_get (D := D) hx hb hts hiX6 hown hK.1 hP 0 rfl rfl 13 (by decide) (hts (.fieldLink RX6 23 "FencePilotModel" "sample" "[I") (by decide +kernel)) (fun _ h9 => h9) rfl dX6_sample_59 ?_
          refine lv_iconst (v := 3) hx hb dX6_sample_62 (by decide) ?_
          refine lv_iload_n hx hb dX6_sample_63 rfl (lv_at hl 1 rfl) ?_
          refine lv_imul hx hb dX6_sample_64 ?_
          refine lv_iload_n hx hb dX6_sample_65 rfl (lv_at hl 2 rfl) ?_
          refine va_iast hx hb hK.1 hP hD hS 2 0 rfl rfl (kk_Lix' (kk_M30 (kk_wi6L (b := 2) c_3 rfl (by decide)) (by decide)) (by decide)) dX6_sample_66 (fun H locs hP hD hS => ?_)
          have hP : va_P D vwCl [(o, .inr (6, [.int kg, .int kc, .ref kax, .ref kay, .int ke, .int ki, .ref kai, .int kw, .int ku, .int kn, .int kq, .int kr, .ref kah, .ref kas, .ref kap, .ref kad, .int kl, .int kz, .int kt, .int km, .int kf, .int kh, .ref kac])), (kah, .inl (cZ, 3, .inl (upd fh k.toNatClampNeg (vp_nar .boolean (1 : Int32))))), (kas, .inl (cI, 9, .inl (upd fs ((3 : Int32) * k).toNatClampNeg x)))] H := hP
          have hD : va_D A [(o, .inr (6, [.int kg, .int kc, .ref kax, .ref kay, .int ke, .int ki, .ref kai, .int kw, .int ku, .int kn, .int kq, .int kr, .ref kah, .ref kas, .ref kap, .ref kad, .int kl, .int kz, .int kt, .int km, .int kf, .int kh, .ref kac])), (kah, .inl (cZ, 3, .inl (upd fh k.toNatClampNeg (vp_nar .boolean (1 : Int32))))), (kas, .inl (cI, 9, .inl (upd fs ((3 : Int32) * k).toNatClampNeg x)))] := hD
          refine lv_aload_n hx hb dX6_sample_67 rfl (lv_at hl 0 rfl) ?_
          refine va_get (D := D) hx hb hts hiX6 hown hK.1 hP 0 rfl rfl 13 (by decide) (hts (.fieldLink RX6 23 "FencePilotModel" "sample" "[I") (by decide +kernel)) (fun _ h9 => h9) rfl dX6_sample_68 ?_
          refine lv_iconst (v := 3) hx hb dX6_sample_71 (by decide) ?_
          refine lv_iload_n hx hb dX6_sample_72 rfl (lv_at hl 1 rfl) ?_
          refine lv_imul hx hb dX6_sample_73 ?_
          refine lv_iconst (v := 1) hx hb dX6_sample_74 (by decide) ?_
          refine lv_iadd hx hb dX6_sample_75 ?_
          refine lv_iload_n hx hb dX6_sample_76 rfl (lv_at hl 3 rfl) ?_
          refine va_iast hx hb hK.1 hP hD hS 2 0 rfl rfl (kk_Lix' (kk_Lad (kk_M30 (kk_wi6L (b := 2) c_3 rfl (by decide)) (by decide)) (by decide) (j := 1) rfl (by decide) (by decide)) (by decide)) dX6_sample_77 (fun H locs hP hD hS => ?_)
          have hP : va_P D vwCl [(o, .inr (6, [.int kg, .int kc, .ref kax, .ref kay, .int ke, .int ki, .ref kai, .int kw, .int ku, .int kn, .int kq, .int kr, .ref kah, .ref kas, .ref kap, .ref kad, .int kl, .int kz, .int kt, .int km, .int kf, .int kh, .ref kac])), (kah, .inl (cZ, 3, .inl (upd fh k.toNatClampNeg (vp_nar .boolean (1 : Int32))))), (kas, .inl (cI, 9, .inl (upd (upd fs ((3 : Int32) * k).toNatClampNeg x) (((3 : Int32) * k) + (1 : Int32)).toNatClampNeg y)))] H := hP
          have hD : va_D A [(o, .inr (6, [.int kg, .int kc, .ref kax, .ref kay, .int ke, .int ki, .ref kai, .int kw, .int ku, .int kn, .int kq, .int kr, .ref kah, .ref kas, .ref kap, .ref kad, .int kl, .int kz, .int kt, .int km, .int kf, .int kh, .ref kac])), (kah, .inl (cZ, 3, .inl (upd fh k.toNatClampNeg (vp_nar .boolean (1 : Int32))))), (kas, .inl (cI, 9, .inl (upd (upd fs ((3 : Int32) * k).toNatClampNeg x) (((3 : Int32) * k) + (1 : Int32)).toNatClampNeg y)))] := hD
          refine lv_aload_n hx hb dX6_sample_78 rfl (lv_at hl 0 rfl) ?_
          refine va_get (D := D) hx hb hts hiX6 hown hK.1 hP 0 rfl rfl 13 (by decide) (hts (.fieldLink RX6 23 "FencePilotModel" "sample" "[I") (by decide +kernel)) (fun _ h9 => h9) rfl dX6_sample_79 ?_
          refine lv_iconst (v := 3) hx hb dX6_sample_82 (by decide) ?_
          refine lv_iload_n hx hb dX6_sample_83 rfl (lv_at hl 1 rfl) ?_
          refine lv_imul hx hb dX6_sample_84 ?_
          refine lv_iconst (v := 2) hx hb dX6_sample_85 (by decide) ?_
          refine lv_iadd hx hb dX6_sample_86 ?_
          refine lv_iload hx hb dX6_sample_87 (lv_at hl 4 rfl) ?_
          refine va_iast hx hb hK.1 hP hD hS 2 0 rfl rfl (kk_Lix' (kk_Lad (kk_M30 (kk_wi6L (b := 2) c_3 rfl (by decide)) (by decide)) (by decide) (j := 2) rfl (by decide) (by decide)) (by decide)) dX6_sample_89 (fun H locs hP hD hS => ?_)
          have hP : va_P D vwCl [(o, .inr (6, [.int kg, .int kc, .ref kax, .ref kay, .int ke, .int ki, .ref kai, .int kw, .int ku, .int kn, .int kq, .int kr, .ref kah, .ref kas, .ref kap, .ref kad, .int kl, .int kz, .int kt, .int km, .int kf, .int kh, .ref kac])), (kah, .inl (cZ, 3, .inl (upd fh k.toNatClampNeg (vp_nar .boolean (1 : Int32))))), (kas, .inl (cI, 9, .inl (upd (upd (upd fs ((3 : Int32) * k).toNatClampNeg x) (((3 : Int32) * k) + (1 : Int32)).toNatClampNeg y) (((3 : Int32) * k) + (2 : Int32)).toNatClampNeg z)))] H := hP
          have hD : va_D A [(o, .inr (6, [.int kg, .int kc, .ref kax, .ref kay, .int ke, .int ki, .ref kai, .int kw, .int ku, .int kn, .int kq, .int kr, .ref kah, .ref kas, .ref kap, .ref kad, .int kl, .int kz, .int kt, .int km, .int kf, .int kh, .ref kac])), (kah, .inl (cZ, 3, .inl (upd fh k.toNatClampNeg (vp_nar .boolean (1 : Int32))))), (kas, .inl (cI, 9, .inl (upd (upd (upd fs ((3 : Int32) * k).toNatClampNeg x) (((3 : Int32) * k) + (1 : Int32)).toNatClampNeg y) (((3 : Int32) * k) + (2 : Int32)).toNatClampNeg z)))] := hD
          refine lv_iconst (v := 1) hx hb dX6_sample_90 (by decide) ?_
          exact kk_rz ((upd fh k.toNatClampNeg (vp_nar .boolean (1 : Int32))), (upd (upd (upd fs ((3 : Int32) * k).toNatClampNeg x) (((3 : Int32) * k) + (1 : Int32)).toNatClampNeg y) (((3 : Int32) * k) + (2 : Int32)).toNatClampNeg z)) hx hb hr hlk dX6_sample_91 hS (hP.sub [0, 1, 2] rfl) (hD.sub [0, 1, 2] (by decide) rfl) rfl (by show ((1 : Int32), (upd fh k.toNatClampNeg (vp_nar .boolean (1 : Int32))), (upd (upd (upd fs ((3 : Int32) * k).toNatClampNeg x) (((3 : Int32) * k) + (1 : Int32)).toNatClampNeg y) (((3 : Int32) * k) + (2 : Int32)).toNatClampNeg z)) = f_X6_sample kg kc ke ki kw ku kn kq kr kl kz kt km kf kh fh fs k x y z; unfold f_X6_sample; rw [if_neg c_3]; rw [if_neg c_6]; rw [if_neg c_9]; rw [if_neg c_12]; try rfl)
        · refine lv_iconst (v := 0) hx hb dX6_sample_49 (by decide) ?_
          exact kk_rz (fh, fs) hx hb hr hlk dX6_sample_50 hS (hP.sub [0, 1, 2] rfl) (hD.sub [0, 1, 2] (by decide) rfl) rfl (by show ((0 : Int32), fh, fs) = f_X6_sample kg kc ke ki kw ku kn kq kr kl kz kt km kf kh fh fs k x y z; unfold f_X6_sample; rw [if_neg c_3]; rw [if_neg c_6]; rw [if_neg c_9]; rw [if_pos c_12]; try rfl)
def f_X6_beat (kg : Int32) (kc : Int32) (ke : Int32) (ki : Int32) (kw : Int32) (ku : Int32) (kn : Int32) (kq : Int32) (kr : Int32) (kl : Int32) (kz : Int32) (kt : Int32) (km : Int32) (kf : Int32) (kh : Int32) : Int32 := (0 : Int32)
set_option maxHeartbeats 4000000 in
set_option maxRecDepth 100000 in
theorem k_X6_beat (l : Launch) (D : va_G) (cI cZ : ClassId) (o : Nat) (kax : Nat) (kay : Nat) (kai : Nat) (kah : Nat) (kas : Nat) (kap : Nat) (kad : Nat) (kac : Nat) (sz : Nat) (kg : Int32) (kc : Int32) (ke : Int32) (ki : Int32) (kw : Int32) (ku : Int32) (kn : Int32) (kq : Int32) (kr : Int32) (kl : Int32) (kz : Int32) (kt : Int32) (km : Int32) (kf : Int32) (kh : Int32)   : kk_Mv l D cI cZ yX6_beat wsX6_beat ({ frames := 0, cells := 0, slots := 0, locals := 0 } : Room) [.ref o] sz [(o, .inr (6, [.int kg, .int kc, .ref kax, .ref kay, .int ke, .int ki, .ref kai, .int kw, .int ku, .int kn, .int kq, .int kr, .ref kah, .ref kas, .ref kap, .ref kad, .int kl, .int kz, .int kt, .int km, .int kf, .int kh, .ref kac]))] (fun (u : Int32) => u = f_X6_beat kg kc ke ki kw ku kn kq kr kl kz kt km kf kh) (fun u => [(o, .inr (6, [.int kg, .int kc, .ref kax, .ref kay, .int ke, .int ki, .ref kai, .int kw, .int ku, .int kn, .int kq, .int kr, .ref kah, .ref kas, .ref kap, .ref kad, .int kl, .int u, .int kt, .int km, .int kf, .int kh, .ref kac]))]) 0 0 := by
  refine kk_entv (cc := cX6_beat) (maxL := 1) (ret := none) (by decide +kernel) rfl (Nat.le_of_ble_eq_true rfl) (fun p e s m args below meth c A ls hX hP hD hS hl => ?_)
  obtain ⟨hx, hb, hml, hown, hts, hr, hlk, hnm, hK, hA⟩ := hX
  have hown : s.vm.findClass RX6 = some m.cls := hown
  have hiX6 : ∀ w ∈ wsX60, w ∈ wsX6_beat := by decide +kernel
  have hl : lv_has ls 1 [(0, .ref o)] := hl
  refine lv_aload_n hx hb dX6_beat_0 rfl (lv_at hl 0 rfl) ?_
  refine lv_iconst (v := 0) hx hb dX6_beat_1 (by decide) ?_
  refine va_put (D := D) (ci := 6) (v := .int (0 : Int32)) (ty := .int) (C := RX6) (T := TX6) (N := 23) hx hb hts hiX6 tyX6 tyX6_ok nmX6 hown hK.1 hP hD hS 0 rfl rfl 17 (by decide) (hts (.fieldLink RX6 96 "FencePilotModel" "silent" "I") (by decide +kernel)) (fun _ h9 => h9) rfl (by decide +kernel) rfl rfl (Nat.le_of_ble_eq_true rfl) dX6_beat_2 (fun H locs hP hD hS => ?_)
  have hP : va_P D vwCl [(o, .inr (6, [.int kg, .int kc, .ref kax, .ref kay, .int ke, .int ki, .ref kai, .int kw, .int ku, .int kn, .int kq, .int kr, .ref kah, .ref kas, .ref kap, .ref kad, .int kl, .int (0 : Int32), .int kt, .int km, .int kf, .int kh, .ref kac]))] H := hP
  have hD : va_D A [(o, .inr (6, [.int kg, .int kc, .ref kax, .ref kay, .int ke, .int ki, .ref kai, .int kw, .int ku, .int kn, .int kq, .int kr, .ref kah, .ref kas, .ref kap, .ref kad, .int kl, .int (0 : Int32), .int kt, .int km, .int kf, .int kh, .ref kac]))] := hD
  exact kk_rv (0 : Int32) hx hb hr hlk dX6_beat_5 hS (hP.sub [0] rfl) (hD.sub [0] (by decide) rfl) (by show (0 : Int32) = f_X6_beat kg kc ke ki kw ku kn kq kr kl kz kt km kf kh; unfold f_X6_beat; rfl)
def g_X6_become_lp (kg : Int32) (kc : Int32) (ke : Int32) (ki : Int32) (kw : Int32) (ku : Int32) (kn : Int32) (kq : Int32) (kr : Int32) (kl : Int32) (kz : Int32) (kt : Int32) (km : Int32) (kf : Int32) (kh : Int32) (fc : Nat → Int32) (md : Int32) : Nat → Int32 → (Nat → Int32) → Int32 × Int32 × Int32 × (Nat → Int32)
  | 0, _, _ => (0, 0, 0, (fun _ => 0))
  | fuel + 1, ix, fc2 => (if ix ≤ (0 : Int32) then (if (16 : Int32) ≤ kh then (if kf = (0 : Int32) then (md, (0 : Int32), (16 : Int32), (upd fc2 (0 : Int32).toNatClampNeg (((8 : Int32) * kt) + md))) else (if md = (5 : Int32) then (md, (1 : Int32), (16 : Int32), (upd fc2 (0 : Int32).toNatClampNeg (((8 : Int32) * kt) + md))) else (md, (0 : Int32), (16 : Int32), (upd fc2 (0 : Int32).toNatClampNeg (((8 : Int32) * kt) + md))))) else (if kf = (0 : Int32) then (md, (0 : Int32), (kh + (1 : Int32)), (upd fc2 (0 : Int32).toNatClampNeg (((8 : Int32) * kt) + md))) else (if md = (5 : Int32) then (md, (1 : Int32), (kh + (1 : Int32)), (upd fc2 (0 : Int32).toNatClampNeg (((8 : Int32) * kt) + md))) else (md, (0 : Int32), (kh + (1 : Int32)), (upd fc2 (0 : Int32).toNatClampNeg (((8 : Int32) * kt) + md)))))) else (g_X6_become_lp kg kc ke ki kw ku kn kq kr kl kz kt km kf kh fc md fuel (ix + (-1)) (upd fc2 ix.toNatClampNeg (fc2 (ix - (1 : Int32)).toNatClampNeg))))
def f_X6_become (kg : Int32) (kc : Int32) (ke : Int32) (ki : Int32) (kw : Int32) (ku : Int32) (kn : Int32) (kq : Int32) (kr : Int32) (kl : Int32) (kz : Int32) (kt : Int32) (km : Int32) (kf : Int32) (kh : Int32) (fc : Nat → Int32) (md : Int32) : Int32 × Int32 × Int32 × (Nat → Int32) := (if md = km then (if kf = (0 : Int32) then (md, (0 : Int32), kh, fc) else (if md = (5 : Int32) then (md, (1 : Int32), kh, fc) else (md, (0 : Int32), kh, fc))) else (g_X6_become_lp kg kc ke ki kw ku kn kq kr kl kz kt km kf kh fc md 16 (15 : Int32) fc))
set_option maxHeartbeats 4000000 in
set_option maxRecDepth 100000 in
theorem lp_X6_become_lp (l : Launch) (D : va_G) (cI cZ : ClassId) (o : Nat) (kax : Nat) (kay : Nat) (kai : Nat) (kah : Nat) (kas : Nat) (kap : Nat) (kad : Nat) (kac : Nat) (kg : Int32) (kc : Int32) (ke : Int32) (ki : Int32) (kw : Int32) (ku : Int32) (kn : Int32) (kq : Int32) (kr : Int32) (kl : Int32) (kz : Int32) (kt : Int32) (km : Int32) (kf : Int32) (kh : Int32) (fc : Nat → Int32) (md : Int32)   {p : Program} {e : Env} {s : State} {m : MethodId} {args : Array Value} {below : List Frame} {meth : Method} {c : Code} {A : Nat → Prop} (hX : kk_X p s m args meth c cX6_become 3 none yX6_become wsX6_become A D cI cZ) (FIN : Int32 × Int32 × Int32 × (Nat → Int32))  :
    ∀ (fuel : Nat) (ix : Int32) (fc2 : Nat → Int32) (H : Heap) (locs : List Loc) (ls : Array Slot), kk_J fuel ix → FIN = g_X6_become_lp kg kc ke ki kw ku kn kq kr kl kz kt km kf kh fc md fuel ix fc2 → va_P D vwCl [(o, .inr (6, [.int kg, .int kc, .ref kax, .ref kay, .int ke, .int ki, .ref kai, .int kw, .int ku, .int kn, .int kq, .int kr, .ref kah, .ref kas, .ref kap, .ref kad, .int kl, .int kz, .int kt, .int km, .int kf, .int kh, .ref kac])), (kac, .inl (cI, 16, .inl fc2))] H → va_D A [(o, .inr (6, [.int kg, .int kc, .ref kax, .ref kay, .int ke, .int ki, .ref kai, .int kw, .int ku, .int kn, .int kq, .int kr, .ref kah, .ref kas, .ref kap, .ref kad, .int kl, .int kz, .int kt, .int km, .int kf, .int kh, .ref kac])), (kac, .inl (cI, 16, .inl fc2))] → va_S A s.heap H locs → lv_has ls 3 [(0, .ref o), (1, .int md), (2, .int ix)] → W p l e ({ frames := 0, cells := 0, slots := 0, locals := 0 } : Room) s m args below meth c H locs 0 0 (MQ below (va_Qv (fun (u : Int32 × Int32 × Int32 × (Nat → Int32)) => u = FIN) (fun u t => kk_B D A [(o, .inr (6, [.int kg, .int kc, .ref kax, .ref kay, .int ke, .int ki, .ref kai, .int kw, .int ku, .int kn, .int kq, .int kr, .ref kah, .ref kas, .ref kap, .ref kad, .int kl, .int kz, .int kt, .int u.1, .int u.2.1, .int u.2.2.1, .ref kac])), (kac, .inl (cI, 16, .inl u.2.2.2))] t) A) args s 0 0 A) (F0 m 11 ls []) := by
  have hX0 := hX
  obtain ⟨hx, hb, hml, hown, hts, hr, hlk, hnm, hK, hA⟩ := hX
  have hown : s.vm.findClass RX6 = some m.cls := hown
  have hiX6 : ∀ w ∈ wsX60, w ∈ wsX6_become := by decide +kernel
  intro fuel
  induction fuel with
  | zero =>
    intro ix fc2 H locs ls hI
    exact absurd hI kk_J0
  | succ fuel ih =>
    intro ix fc2 H locs ls hI hF hP hD hS hl
    refine lv_iload_n hx hb dX6_become_11 rfl (lv_at hl 2 rfl) ?_
    refine lv_if_le (tgt := 35) hx hb dX6_become_12 (by decide) (fun c_1001 => ?_) (fun c_1001 => ?_)
    · refine lv_aload_n hx hb dX6_become_35 rfl (lv_at hl 0 rfl) ?_
      refine va_get (D := D) hx hb hts hiX6 hown hK.1 hP 0 rfl rfl 22 (by decide) (hts (.fieldLink RX6 36 "FencePilotModel" "change" "[I") (by decide +kernel)) (fun _ h9 => h9) rfl dX6_become_36 ?_
      refine lv_iconst (v := 0) hx hb dX6_become_39 (by decide) ?_
      refine lv_bipush (v := 8) hx hb dX6_become_40 (by decide) ?_
      refine lv_aload_n hx hb dX6_become_42 rfl (lv_at hl 0 rfl) ?_
      refine va_get (D := D) hx hb hts hiX6 hown hK.1 hP 0 rfl rfl 18 (by decide) (hts (.fieldLink RX6 99 "FencePilotModel" "ticks" "I") (by decide +kernel)) (fun _ h9 => h9) rfl dX6_become_43 ?_
      refine lv_imul hx hb dX6_become_46 ?_
      refine lv_iload_n hx hb dX6_become_47 rfl (lv_at hl 1 rfl) ?_
      refine lv_iadd hx hb dX6_become_48 ?_
      refine va_iast hx hb hK.1 hP hD hS 1 0 rfl rfl (by unfold vp_in; decide) dX6_become_49 (fun H locs hP hD hS => ?_)
      have hP : va_P D vwCl [(o, .inr (6, [.int kg, .int kc, .ref kax, .ref kay, .int ke, .int ki, .ref kai, .int kw, .int ku, .int kn, .int kq, .int kr, .ref kah, .ref kas, .ref kap, .ref kad, .int kl, .int kz, .int kt, .int km, .int kf, .int kh, .ref kac])), (kac, .inl (cI, 16, .inl (upd fc2 (0 : Int32).toNatClampNeg (((8 : Int32) * kt) + md))))] H := hP
      have hD : va_D A [(o, .inr (6, [.int kg, .int kc, .ref kax, .ref kay, .int ke, .int ki, .ref kai, .int kw, .int ku, .int kn, .int kq, .int kr, .ref kah, .ref kas, .ref kap, .ref kad, .int kl, .int kz, .int kt, .int km, .int kf, .int kh, .ref kac])), (kac, .inl (cI, 16, .inl (upd fc2 (0 : Int32).toNatClampNeg (((8 : Int32) * kt) + md))))] := hD
      refine lv_aload_n hx hb dX6_become_50 rfl (lv_at hl 0 rfl) ?_
      refine lv_aload_n hx hb dX6_become_51 rfl (lv_at hl 0 rfl) ?_
      refine va_get (D := D) hx hb hts hiX6 hown hK.1 hP 0 rfl rfl 21 (by decide) (hts (.fieldLink RX6 102 "FencePilotModel" "changes" "I") (by decide +kernel)) (fun _ h9 => h9) rfl dX6_become_52 ?_
      refine lv_bipush (v := 16) hx hb dX6_become_55 (by decide) ?_
      refine lv_icmp_ge (tgt := 69) hx hb dX6_become_57 (by decide) (fun c_1002 => ?_) (fun c_1002 => ?_)
      · refine lv_bipush (v := 16) hx hb dX6_become_69 (by decide) ?_
        refine va_put (D := D) (ci := 6) (v := .int (16 : Int32)) (ty := .int) (C := RX6) (T := TX6) (N := 23) hx hb hts hiX6 tyX6 tyX6_ok nmX6 hown hK.1 hP hD hS 0 rfl rfl 21 (by decide) (hts (.fieldLink RX6 102 "FencePilotModel" "changes" "I") (by decide +kernel)) (fun _ h9 => h9) rfl (by decide +kernel) rfl rfl (Nat.le_of_ble_eq_true rfl) dX6_become_71 (fun H locs hP hD hS => ?_)
        have hP : va_P D vwCl [(o, .inr (6, [.int kg, .int kc, .ref kax, .ref kay, .int ke, .int ki, .ref kai, .int kw, .int ku, .int kn, .int kq, .int kr, .ref kah, .ref kas, .ref kap, .ref kad, .int kl, .int kz, .int kt, .int km, .int kf, .int (16 : Int32), .ref kac])), (kac, .inl (cI, 16, .inl (upd fc2 (0 : Int32).toNatClampNeg (((8 : Int32) * kt) + md))))] H := hP
        have hD : va_D A [(o, .inr (6, [.int kg, .int kc, .ref kax, .ref kay, .int ke, .int ki, .ref kai, .int kw, .int ku, .int kn, .int kq, .int kr, .ref kah, .ref kas, .ref kap, .ref kad, .int kl, .int kz, .int kt, .int km, .int kf, .int (16 : Int32), .ref kac])), (kac, .inl (cI, 16, .inl (upd fc2 (0 : Int32).toNatClampNeg (((8 : Int32) * kt) + md))))] := hD
        refine lv_aload_n hx hb dX6_become_74 rfl (lv_at hl 0 rfl) ?_
        refine lv_iload_n hx hb dX6_become_75 rfl (lv_at hl 1 rfl) ?_
        refine va_put (D := D) (ci := 6) (v := .int md) (ty := .int) (C := RX6) (T := TX6) (N := 23) hx hb hts hiX6 tyX6 tyX6_ok nmX6 hown hK.1 hP hD hS 0 rfl rfl 19 (by decide) (hts (.fieldLink RX6 62 "FencePilotModel" "mode" "I") (by decide +kernel)) (fun _ h9 => h9) rfl (by decide +kernel) rfl rfl (Nat.le_of_ble_eq_true rfl) dX6_become_76 (fun H locs hP hD hS => ?_)
        have hP : va_P D vwCl [(o, .inr (6, [.int kg, .int kc, .ref kax, .ref kay, .int ke, .int ki, .ref kai, .int kw, .int ku, .int kn, .int kq, .int kr, .ref kah, .ref kas, .ref kap, .ref kad, .int kl, .int kz, .int kt, .int md, .int kf, .int (16 : Int32), .ref kac])), (kac, .inl (cI, 16, .inl (upd fc2 (0 : Int32).toNatClampNeg (((8 : Int32) * kt) + md))))] H := hP
        have hD : va_D A [(o, .inr (6, [.int kg, .int kc, .ref kax, .ref kay, .int ke, .int ki, .ref kai, .int kw, .int ku, .int kn, .int kq, .int kr, .ref kah, .ref kas, .ref kap, .ref kad, .int kl, .int kz, .int kt, .int md, .int kf, .int (16 : Int32), .ref kac])), (kac, .inl (cI, 16, .inl (upd fc2 (0 : Int32).toNatClampNeg (((8 : Int32) * kt) + md))))] := hD
        refine lv_aload_n hx hb dX6_become_79 rfl (lv_at hl 0 rfl) ?_
        refine lv_aload_n hx hb dX6_become_80 rfl (lv_at hl 0 rfl) ?_
        refine va_get (D := D) hx hb hts hiX6 hown hK.1 hP 0 rfl rfl 20 (by decide) (hts (.fieldLink RX6 105 "FencePilotModel" "forced" "Z") (by decide +kernel)) (fun _ h9 => h9) rfl dX6_become_81 ?_
        refine lv_if_eq (tgt := 96) hx hb dX6_become_84 (by decide) (fun c_1003 => ?_) (fun c_1003 => ?_)
        · refine lv_iconst (v := 0) hx hb dX6_become_96 (by decide) ?_
          refine va_put (D := D) (ci := 6) (v := .int (0 : Int32)) (ty := .boolean) (C := RX6) (T := TX6) (N := 23) hx hb hts hiX6 tyX6 tyX6_ok nmX6 hown hK.1 hP hD hS 0 rfl rfl 20 (by decide) (hts (.fieldLink RX6 105 "FencePilotModel" "forced" "Z") (by decide +kernel)) (fun _ h9 => h9) rfl (by decide +kernel) rfl rfl (Nat.le_of_ble_eq_true rfl) dX6_become_97 (fun H locs hP hD hS => ?_)
          have hP : va_P D vwCl [(o, .inr (6, [.int kg, .int kc, .ref kax, .ref kay, .int ke, .int ki, .ref kai, .int kw, .int ku, .int kn, .int kq, .int kr, .ref kah, .ref kas, .ref kap, .ref kad, .int kl, .int kz, .int kt, .int md, .int (0 : Int32), .int (16 : Int32), .ref kac])), (kac, .inl (cI, 16, .inl (upd fc2 (0 : Int32).toNatClampNeg (((8 : Int32) * kt) + md))))] H := hP
          have hD : va_D A [(o, .inr (6, [.int kg, .int kc, .ref kax, .ref kay, .int ke, .int ki, .ref kai, .int kw, .int ku, .int kn, .int kq, .int kr, .ref kah, .ref kas, .ref kap, .ref kad, .int kl, .int kz, .int kt, .int md, .int (0 : Int32), .int (16 : Int32), .ref kac])), (kac, .inl (cI, 16, .inl (upd fc2 (0 : Int32).toNatClampNeg (((8 : Int32) * kt) + md))))] := hD
          exact kk_rv (md, (0 : Int32), (16 : Int32), (upd fc2 (0 : Int32).toNatClampNeg (((8 : Int32) * kt) + md))) hx hb hr hlk dX6_become_100 hS (hP.sub [0, 1] rfl) (hD.sub [0, 1] (by decide) rfl) (by show (md, (0 : Int32), (16 : Int32), (upd fc2 (0 : Int32).toNatClampNeg (((8 : Int32) * kt) + md))) = FIN; rw [hF, g_X6_become_lp]; rw [if_pos c_1001]; rw [if_pos c_1002]; rw [if_pos c_1003]; try rfl)
        · refine lv_iload_n hx hb dX6_become_87 rfl (lv_at hl 1 rfl) ?_
          refine lv_iconst (v := 5) hx hb dX6_become_88 (by decide) ?_
          refine lv_icmp_ne (tgt := 96) hx hb dX6_become_89 (by decide) (fun c_1004 => ?_) (fun c_1004 => ?_)
          · refine lv_iconst (v := 0) hx hb dX6_become_96 (by decide) ?_
            refine va_put (D := D) (ci := 6) (v := .int (0 : Int32)) (ty := .boolean) (C := RX6) (T := TX6) (N := 23) hx hb hts hiX6 tyX6 tyX6_ok nmX6 hown hK.1 hP hD hS 0 rfl rfl 20 (by decide) (hts (.fieldLink RX6 105 "FencePilotModel" "forced" "Z") (by decide +kernel)) (fun _ h9 => h9) rfl (by decide +kernel) rfl rfl (Nat.le_of_ble_eq_true rfl) dX6_become_97 (fun H locs hP hD hS => ?_)
            have hP : va_P D vwCl [(o, .inr (6, [.int kg, .int kc, .ref kax, .ref kay, .int ke, .int ki, .ref kai, .int kw, .int ku, .int kn, .int kq, .int kr, .ref kah, .ref kas, .ref kap, .ref kad, .int kl, .int kz, .int kt, .int md, .int (0 : Int32), .int (16 : Int32), .ref kac])), (kac, .inl (cI, 16, .inl (upd fc2 (0 : Int32).toNatClampNeg (((8 : Int32) * kt) + md))))] H := hP
            have hD : va_D A [(o, .inr (6, [.int kg, .int kc, .ref kax, .ref kay, .int ke, .int ki, .ref kai, .int kw, .int ku, .int kn, .int kq, .int kr, .ref kah, .ref kas, .ref kap, .ref kad, .int kl, .int kz, .int kt, .int md, .int (0 : Int32), .int (16 : Int32), .ref kac])), (kac, .inl (cI, 16, .inl (upd fc2 (0 : Int32).toNatClampNeg (((8 : Int32) * kt) + md))))] := hD
            exact kk_rv (md, (0 : Int32), (16 : Int32), (upd fc2 (0 : Int32).toNatClampNeg (((8 : Int32) * kt) + md))) hx hb hr hlk dX6_become_100 hS (hP.sub [0, 1] rfl) (hD.sub [0, 1] (by decide) rfl) (by show (md, (0 : Int32), (16 : Int32), (upd fc2 (0 : Int32).toNatClampNeg (((8 : Int32) * kt) + md))) = FIN; rw [hF, g_X6_become_lp]; rw [if_pos c_1001]; rw [if_pos c_1002]; rw [if_neg c_1003]; rw [if_neg c_1004]; try rfl)
          · refine lv_iconst (v := 1) hx hb dX6_become_92 (by decide) ?_
            refine lv_goto (tgt := 97) hx hb dX6_become_93 (by decide) ?_
            refine va_put (D := D) (ci := 6) (v := .int (1 : Int32)) (ty := .boolean) (C := RX6) (T := TX6) (N := 23) hx hb hts hiX6 tyX6 tyX6_ok nmX6 hown hK.1 hP hD hS 0 rfl rfl 20 (by decide) (hts (.fieldLink RX6 105 "FencePilotModel" "forced" "Z") (by decide +kernel)) (fun _ h9 => h9) rfl (by decide +kernel) rfl rfl (Nat.le_of_ble_eq_true rfl) dX6_become_97 (fun H locs hP hD hS => ?_)
            have hP : va_P D vwCl [(o, .inr (6, [.int kg, .int kc, .ref kax, .ref kay, .int ke, .int ki, .ref kai, .int kw, .int ku, .int kn, .int kq, .int kr, .ref kah, .ref kas, .ref kap, .ref kad, .int kl, .int kz, .int kt, .int md, .int (1 : Int32), .int (16 : Int32), .ref kac])), (kac, .inl (cI, 16, .inl (upd fc2 (0 : Int32).toNatClampNeg (((8 : Int32) * kt) + md))))] H := hP
            have hD : va_D A [(o, .inr (6, [.int kg, .int kc, .ref kax, .ref kay, .int ke, .int ki, .ref kai, .int kw, .int ku, .int kn, .int kq, .int kr, .ref kah, .ref kas, .ref kap, .ref kad, .int kl, .int kz, .int kt, .int md, .int (1 : Int32), .int (16 : Int32), .ref kac])), (kac, .inl (cI, 16, .inl (upd fc2 (0 : Int32).toNatClampNeg (((8 : Int32) * kt) + md))))] := hD
            exact kk_rv (md, (1 : Int32), (16 : Int32), (upd fc2 (0 : Int32).toNatClampNeg (((8 : Int32) * kt) + md))) hx hb hr hlk dX6_become_100 hS (hP.sub [0, 1] rfl) (hD.sub [0, 1] (by decide) rfl) (by show (md, (1 : Int32), (16 : Int32), (upd fc2 (0 : Int32).toNatClampNeg (((8 : Int32) * kt) + md))) = FIN; rw [hF, g_X6_become_lp]; rw [if_pos c_1001]; rw [if_pos c_1002]; rw [if_neg c_1003]; rw [if_pos c_1004]; try rfl)
      · refine lv_aload_n hx hb dX6_become_60 rfl (lv_at hl 0 rfl) ?_
        refine va_get (D := D) hx hb hts hiX6 hown hK.1 hP 0 rfl rfl 21 (by decide) (hts (.fieldLink RX6 102 "FencePilotModel" "changes" "I") (by decide +kernel)) (fun _ h9 => h9) rfl dX6_become_61 ?_
        refine lv_iconst (v := 1) hx hb dX6_become_64 (by decide) ?_
        refine lv_iadd hx hb dX6_become_65 ?_
        refine lv_goto (tgt := 71) hx hb dX6_become_66 (by decide) ?_
        refine va_put (D := D) (ci := 6) (v := .int (kh + (1 : Int32))) (ty := .int) (C := RX6) (T := TX6) (N := 23) hx hb hts hiX6 tyX6 tyX6_ok nmX6 hown hK.1 hP hD hS 0 rfl rfl 21 (by decide) (hts (.fieldLink RX6 102 "FencePilotModel" "changes" "I") (by decide +kernel)) (fun _ h9 => h9) rfl (by decide +kernel) rfl rfl (Nat.le_of_ble_eq_true rfl) dX6_become_71 (fun H locs hP hD hS => ?_)
        have hP : va_P D vwCl [(o, .inr (6, [.int kg, .int kc, .ref kax, .ref kay, .int ke, .int ki, .ref kai, .int kw, .int ku, .int kn, .int kq, .int kr, .ref kah, .ref kas, .ref kap, .ref kad, .int kl, .int kz, .int kt, .int km, .int kf, .int (kh + (1 : Int32)), .ref kac])), (kac, .inl (cI, 16, .inl (upd fc2 (0 : Int32).toNatClampNeg (((8 : Int32) * kt) + md))))] H := hP
        have hD : va_D A [(o, .inr (6, [.int kg, .int kc, .ref kax, .ref kay, .int ke, .int ki, .ref kai, .int kw, .int ku, .int kn, .int kq, .int kr, .ref kah, .ref kas, .ref kap, .ref kad, .int kl, .int kz, .int kt, .int km, .int kf, .int (kh + (1 : Int32)), .ref kac])), (kac, .inl (cI, 16, .inl (upd fc2 (0 : Int32).toNatClampNeg (((8 : Int32) * kt) + md))))] := hD
        refine lv_aload_n hx hb dX6_become_74 rfl (lv_at hl 0 rfl) ?_
        refine lv_iload_n hx hb dX6_become_75 rfl (lv_at hl 1 rfl) ?_
        refine va_put (D := D) (ci := 6) (v := .int md) (ty := .int) (C := RX6) (T := TX6) (N := 23) hx hb hts hiX6 tyX6 tyX6_ok nmX6 hown hK.1 hP hD hS 0 rfl rfl 19 (by decide) (hts (.fieldLink RX6 62 "FencePilotModel" "mode" "I") (by decide +kernel)) (fun _ h9 => h9) rfl (by decide +kernel) rfl rfl (Nat.le_of_ble_eq_true rfl) dX6_become_76 (fun H locs hP hD hS => ?_)
        have hP : va_P D vwCl [(o, .inr (6, [.int kg, .int kc, .ref kax, .ref kay, .int ke, .int ki, .ref kai, .int kw, .int ku, .int kn, .int kq, .int kr, .ref kah, .ref kas, .ref kap, .ref kad, .int kl, .int kz, .int kt, .int md, .int kf, .int (kh + (1 : Int32)), .ref kac])), (kac, .inl (cI, 16, .inl (upd fc2 (0 : Int32).toNatClampNeg (((8 : Int32) * kt) + md))))] H := hP
        have hD : va_D A [(o, .inr (6, [.int kg, .int kc, .ref kax, .ref kay, .int ke, .int ki, .ref kai, .int kw, .int ku, .int kn, .int kq, .int kr, .ref kah, .ref kas, .ref kap, .ref kad, .int kl, .int kz, .int kt, .int md, .int kf, .int (kh + (1 : Int32)), .ref kac])), (kac, .inl (cI, 16, .inl (upd fc2 (0 : Int32).toNatClampNeg (((8 : Int32) * kt) + md))))] := hD
        refine lv_aload_n hx hb dX6_become_79 rfl (lv_at hl 0 rfl) ?_
        refine lv_aload_n hx hb dX6_become_80 rfl (lv_at hl 0 rfl) ?_
        refine va_get (D := D) hx hb hts hiX6 hown hK.1 hP 0 rfl rfl 20 (by decide) (hts (.fieldLink RX6 105 "FencePilotModel" "forced" "Z") (by decide +kernel)) (fun _ h9 => h9) rfl dX6_become_81 ?_
        refine lv_if_eq (tgt := 96) hx hb dX6_become_84 (by decide) (fun c_1005 => ?_) (fun c_1005 => ?_)
        · refine lv_iconst (v := 0) hx hb dX6_become_96 (by decide) ?_
          refine va_put (D := D) (ci := 6) (v := .int (0 : Int32)) (ty := .boolean) (C := RX6) (T := TX6) (N := 23) hx hb hts hiX6 tyX6 tyX6_ok nmX6 hown hK.1 hP hD hS 0 rfl rfl 20 (by decide) (hts (.fieldLink RX6 105 "FencePilotModel" "forced" "Z") (by decide +kernel)) (fun _ h9 => h9) rfl (by decide +kernel) rfl rfl (Nat.le_of_ble_eq_true rfl) dX6_become_97 (fun H locs hP hD hS => ?_)
          have hP : va_P D vwCl [(o, .inr (6, [.int kg, .int kc, .ref kax, .ref kay, .int ke, .int ki, .ref kai, .int kw, .int ku, .int kn, .int kq, .int kr, .ref kah, .ref kas, .ref kap, .ref kad, .int kl, .int kz, .int kt, .int md, .int (0 : Int32), .int (kh + (1 : Int32)), .ref kac])), (kac, .inl (cI, 16, .inl (upd fc2 (0 : Int32).toNatClampNeg (((8 : Int32) * kt) + md))))] H := hP
          have hD : va_D A [(o, .inr (6, [.int kg, .int kc, .ref kax, .ref kay, .int ke, .int ki, .ref kai, .int kw, .int ku, .int kn, .int kq, .int kr, .ref kah, .ref kas, .ref kap, .ref kad, .int kl, .int kz, .int kt, .int md, .int (0 : Int32), .int (kh + (1 : Int32)), .ref kac])), (kac, .inl (cI, 16, .inl (upd fc2 (0 : Int32).toNatClampNeg (((8 : Int32) * kt) + md))))] := hD
          exact kk_rv (md, (0 : Int32), (kh + (1 : Int32)), (upd fc2 (0 : Int32).toNatClampNeg (((8 : Int32) * kt) + md))) hx hb hr hlk dX6_become_100 hS (hP.sub [0, 1] rfl) (hD.sub [0, 1] (by decide) rfl) (by show (md, (0 : Int32), (kh + (1 : Int32)), (upd fc2 (0 : Int32).toNatClampNeg (((8 : Int32) * kt) + md))) = FIN; rw [hF, g_X6_become_lp]; rw [if_pos c_1001]; rw [if_neg c_1002]; rw [if_pos c_1005]; try rfl)
        · refine lv_iload_n hx hb dX6_become_87 rfl (lv_at hl 1 rfl) ?_
          refine lv_iconst (v := 5) hx hb dX6_become_88 (by decide) ?_
          refine lv_icmp_ne (tgt := 96) hx hb dX6_become_89 (by decide) (fun c_1006 => ?_) (fun c_1006 => ?_)
          · refine lv_iconst (v := 0) hx hb dX6_become_96 (by decide) ?_
            refine va_put (D := D) (ci := 6) (v := .int (0 : Int32)) (ty := .boolean) (C := RX6) (T := TX6) (N := 23) hx hb hts hiX6 tyX6 tyX6_ok nmX6 hown hK.1 hP hD hS 0 rfl rfl 20 (by decide) (hts (.fieldLink RX6 105 "FencePilotModel" "forced" "Z") (by decide +kernel)) (fun _ h9 => h9) rfl (by decide +kernel) rfl rfl (Nat.le_of_ble_eq_true rfl) dX6_become_97 (fun H locs hP hD hS => ?_)
            have hP : va_P D vwCl [(o, .inr (6, [.int kg, .int kc, .ref kax, .ref kay, .int ke, .int ki, .ref kai, .int kw, .int ku, .int kn, .int kq, .int kr, .ref kah, .ref kas, .ref kap, .ref kad, .int kl, .int kz, .int kt, .int md, .int (0 : Int32), .int (kh + (1 : Int32)), .ref kac])), (kac, .inl (cI, 16, .inl (upd fc2 (0 : Int32).toNatClampNeg (((8 : Int32) * kt) + md))))] H := hP
            have hD : va_D A [(o, .inr (6, [.int kg, .int kc, .ref kax, .ref kay, .int ke, .int ki, .ref kai, .int kw, .int ku, .int kn, .int kq, .int kr, .ref kah, .ref kas, .ref kap, .ref kad, .int kl, .int kz, .int kt, .int md, .int (0 : Int32), .int (kh + (1 : Int32)), .ref kac])), (kac, .inl (cI, 16, .inl (upd fc2 (0 : Int32).toNatClampNeg (((8 : Int32) * kt) + md))))] := hD
            exact kk_rv (md, (0 : Int32), (kh + (1 : Int32)), (upd fc2 (0 : Int32).toNatClampNeg (((8 : Int32) * kt) + md))) hx hb hr hlk dX6_become_100 hS (hP.sub [0, 1] rfl) (hD.sub [0, 1] (by decide) rfl) (by show (md, (0 : Int32), (kh + (1 : Int32)), (upd fc2 (0 : Int32).toNatClampNeg (((8 : Int32) * kt) + md))) = FIN; rw [hF, g_X6_become_lp]; rw [if_pos c_1001]; rw [if_neg c_1002]; rw [if_neg c_1005]; rw [if_neg c_1006]; try rfl)
          · refine lv_iconst (v := 1) hx hb dX6_become_92 (by decide) ?_
            refine lv_goto (tgt := 97) hx hb dX6_become_93 (by decide) ?_
            refine va_put (D := D) (ci := 6) (v := .int (1 : Int32)) (ty := .boolean) (C := RX6) (T := TX6) (N := 23) hx hb hts hiX6 tyX6 tyX6_ok nmX6 hown hK.1 hP hD hS 0 rfl rfl 20 (by decide) (hts (.fieldLink RX6 105 "FencePilotModel" "forced" "Z") (by decide +kernel)) (fun _ h9 => h9) rfl (by decide +kernel) rfl rfl (Nat.le_of_ble_eq_true rfl) dX6_become_97 (fun H locs hP hD hS => ?_)
            have hP : va_P D vwCl [(o, .inr (6, [.int kg, .int kc, .ref kax, .ref kay, .int ke, .int ki, .ref kai, .int kw, .int ku, .int kn, .int kq, .int kr, .ref kah, .ref kas, .ref kap, .ref kad, .int kl, .int kz, .int kt, .int md, .int (1 : Int32), .int (kh + (1 : Int32)), .ref kac])), (kac, .inl (cI, 16, .inl (upd fc2 (0 : Int32).toNatClampNeg (((8 : Int32) * kt) + md))))] H := hP
            have hD : va_D A [(o, .inr (6, [.int kg, .int kc, .ref kax, .ref kay, .int ke, .int ki, .ref kai, .int kw, .int ku, .int kn, .int kq, .int kr, .ref kah, .ref kas, .ref kap, .ref kad, .int kl, .int kz, .int kt, .int md, .int (1 : Int32), .int (kh + (1 : Int32)), .ref kac])), (kac, .inl (cI, 16, .inl (upd fc2 (0 : Int32).toNatClampNeg (((8 : Int32) * kt) + md))))] := hD
            exact kk_rv (md, (1 : Int32), (kh + (1 : Int32)), (upd fc2 (0 : Int32).toNatClampNeg (((8 : Int32) * kt) + md))) hx hb hr hlk dX6_become_100 hS (hP.sub [0, 1] rfl) (hD.sub [0, 1] (by decide) rfl) (by show (md, (1 : Int32), (kh + (1 : Int32)), (upd fc2 (0 : Int32).toNatClampNeg (((8 : Int32) * kt) + md))) = FIN; rw [hF, g_X6_become_lp]; rw [if_pos c_1001]; rw [if_neg c_1002]; rw [if_neg c_1005]; rw [if_pos c_1006]; try rfl)
    · refine lv_aload_n hx hb dX6_become_15 rfl (lv_at hl 0 rfl) ?_
      refine va_get (D := D) hx hb hts hiX6 hown hK.1 hP 0 rfl rfl 22 (by decide) (hts (.fieldLink RX6 36 "FencePilotModel" "change" "[I") (by decide +kernel)) (fun _ h9 => h9) rfl dX6_become_16 ?_
      refine lv_iload_n hx hb dX6_become_19 rfl (lv_at hl 2 rfl) ?_
      refine lv_aload_n hx hb dX6_become_20 rfl (lv_at hl 0 rfl) ?_
      refine va_get (D := D) hx hb hts hiX6 hown hK.1 hP 0 rfl rfl 22 (by decide) (hts (.fieldLink RX6 36 "FencePilotModel" "change" "[I") (by decide +kernel)) (fun _ h9 => h9) rfl dX6_become_21 ?_
      refine lv_iload_n hx hb dX6_become_24 rfl (lv_at hl 2 rfl) ?_
      refine lv_iconst (v := 1) hx hb dX6_become_25 (by decide) ?_
      refine lv_isub hx hb dX6_become_26 ?_
      refine va_iald hx hb hK.1 hP 1 0 rfl rfl (kk_Jix1 hI c_1001) dX6_become_27 ?_
      refine va_iast hx hb hK.1 hP hD hS 1 0 rfl rfl (kk_Jix hI) dX6_become_28 (fun H locs hP hD hS => ?_)
      have hP : va_P D vwCl [(o, .inr (6, [.int kg, .int kc, .ref kax, .ref kay, .int ke, .int ki, .ref kai, .int kw, .int ku, .int kn, .int kq, .int kr, .ref kah, .ref kas, .ref kap, .ref kad, .int kl, .int kz, .int kt, .int km, .int kf, .int kh, .ref kac])), (kac, .inl (cI, 16, .inl (upd fc2 ix.toNatClampNeg (fc2 (ix - (1 : Int32)).toNatClampNeg))))] H := hP
      have hD : va_D A [(o, .inr (6, [.int kg, .int kc, .ref kax, .ref kay, .int ke, .int ki, .ref kai, .int kw, .int ku, .int kn, .int kq, .int kr, .ref kah, .ref kas, .ref kap, .ref kad, .int kl, .int kz, .int kt, .int km, .int kf, .int kh, .ref kac])), (kac, .inl (cI, 16, .inl (upd fc2 ix.toNatClampNeg (fc2 (ix - (1 : Int32)).toNatClampNeg))))] := hD
      refine lv_iinc (v := (ix + (-1))) (lv' := [(2, .int (ix + (-1))), (0, .ref o), (1, .int md)]) hx hb dX6_become_29 hl (k := 2) rfl (by first | rfl | decide) (by decide) rfl (fun ls hl => ?_)
      refine lv_goto (tgt := 11) hx hb dX6_become_32 (by decide) ?_
      exact ih (ix + (-1)) (upd fc2 ix.toNatClampNeg (fc2 (ix - (1 : Int32)).toNatClampNeg)) _ _ _ (kk_Jdn hI c_1001) (by show FIN = (g_X6_become_lp kg kc ke ki kw ku kn kq kr kl kz kt km kf kh fc md fuel (ix + (-1)) (upd fc2 ix.toNatClampNeg (fc2 (ix - (1 : Int32)).toNatClampNeg))); rw [hF, g_X6_become_lp]; rw [if_neg c_1001]; try rfl) (hP.sub [0, 1] rfl) (hD.sub [0, 1] (by decide) rfl) hS (lv_sub hl [1, 2, 0] rfl)
set_option maxHeartbeats 4000000 in
set_option maxRecDepth 100000 in
theorem k_X6_become (l : Launch) (D : va_G) (cI cZ : ClassId) (o : Nat) (kax : Nat) (kay : Nat) (kai : Nat) (kah : Nat) (kas : Nat) (kap : Nat) (kad : Nat) (kac : Nat) (sz : Nat) (kg : Int32) (kc : Int32) (ke : Int32) (ki : Int32) (kw : Int32) (ku : Int32) (kn : Int32) (kq : Int32) (kr : Int32) (kl : Int32) (kz : Int32) (kt : Int32) (km : Int32) (kf : Int32) (kh : Int32) (fc : Nat → Int32) (md : Int32)  : kk_Mv l D cI cZ yX6_become wsX6_become ({ frames := 0, cells := 0, slots := 0, locals := 0 } : Room) [.ref o, .int md] sz [(o, .inr (6, [.int kg, .int kc, .ref kax, .ref kay, .int ke, .int ki, .ref kai, .int kw, .int ku, .int kn, .int kq, .int kr, .ref kah, .ref kas, .ref kap, .ref kad, .int kl, .int kz, .int kt, .int km, .int kf, .int kh, .ref kac])), (kac, .inl (cI, 16, .inl fc))] (fun (u : Int32 × Int32 × Int32 × (Nat → Int32)) => u = f_X6_become kg kc ke ki kw ku kn kq kr kl kz kt km kf kh fc md) (fun u => [(o, .inr (6, [.int kg, .int kc, .ref kax, .ref kay, .int ke, .int ki, .ref kai, .int kw, .int ku, .int kn, .int kq, .int kr, .ref kah, .ref kas, .ref kap, .ref kad, .int kl, .int kz, .int kt, .int u.1, .int u.2.1, .int u.2.2.1, .ref kac])), (kac, .inl (cI, 16, .inl u.2.2.2))]) 0 0 := by
  refine kk_entv (cc := cX6_become) (maxL := 3) (ret := none) (by decide +kernel) rfl (Nat.le_of_ble_eq_true rfl) (fun p e s m args below meth c A ls hX hP hD hS hl => ?_)
  have hX0 := hX
  obtain ⟨hx, hb, hml, hown, hts, hr, hlk, hnm, hK, hA⟩ := hX
  have hown : s.vm.findClass RX6 = some m.cls := hown
  have hiX6 : ∀ w ∈ wsX60, w ∈ wsX6_become := by decide +kernel
  have hl : lv_has ls 3 [(0, .ref o), (1, .int md)] := hl
  refine lv_iload_n hx hb dX6_become_0 rfl (lv_at hl 1 rfl) ?_
  refine lv_aload_n hx hb dX6_become_1 rfl (lv_at hl 0 rfl) ?_
  refine va_get (D := D) hx hb hts hiX6 hown hK.1 hP 0 rfl rfl 19 (by decide) (hts (.fieldLink RX6 62 "FencePilotModel" "mode" "I") (by decide +kernel)) (fun _ h9 => h9) rfl dX6_become_2 ?_
  refine lv_icmp_eq (tgt := 74) hx hb dX6_become_5 (by decide) (fun c_1 => ?_) (fun c_1 => ?_)
  · refine lv_aload_n hx hb dX6_become_74 rfl (lv_at hl 0 rfl) ?_
    refine lv_iload_n hx hb dX6_become_75 rfl (lv_at hl 1 rfl) ?_
    refine va_put (D := D) (ci := 6) (v := .int md) (ty := .int) (C := RX6) (T := TX6) (N := 23) hx hb hts hiX6 tyX6 tyX6_ok nmX6 hown hK.1 hP hD hS 0 rfl rfl 19 (by decide) (hts (.fieldLink RX6 62 "FencePilotModel" "mode" "I") (by decide +kernel)) (fun _ h9 => h9) rfl (by decide +kernel) rfl rfl (Nat.le_of_ble_eq_true rfl) dX6_become_76 (fun H locs hP hD hS => ?_)
    have hP : va_P D vwCl [(o, .inr (6, [.int kg, .int kc, .ref kax, .ref kay, .int ke, .int ki, .ref kai, .int kw, .int ku, .int kn, .int kq, .int kr, .ref kah, .ref kas, .ref kap, .ref kad, .int kl, .int kz, .int kt, .int md, .int kf, .int kh, .ref kac])), (kac, .inl (cI, 16, .inl fc))] H := hP
    have hD : va_D A [(o, .inr (6, [.int kg, .int kc, .ref kax, .ref kay, .int ke, .int ki, .ref kai, .int kw, .int ku, .int kn, .int kq, .int kr, .ref kah, .ref kas, .ref kap, .ref kad, .int kl, .int kz, .int kt, .int md, .int kf, .int kh, .ref kac])), (kac, .inl (cI, 16, .inl fc))] := hD
    refine lv_aload_n hx hb dX6_become_79 rfl (lv_at hl 0 rfl) ?_
    refine lv_aload_n hx hb dX6_become_80 rfl (lv_at hl 0 rfl) ?_
    refine va_get (D := D) hx hb hts hiX6 hown hK.1 hP 0 rfl rfl 20 (by decide) (hts (.fieldLink RX6 105 "FencePilotModel" "forced" "Z") (by decide +kernel)) (fun _ h9 => h9) rfl dX6_become_81 ?_
    refine lv_if_eq (tgt := 96) hx hb dX6_become_84 (by decide) (fun c_2 => ?_) (fun c_2 => ?_)
    · refine lv_iconst (v := 0) hx hb dX6_become_96 (by decide) ?_
      refine va_put (D := D) (ci := 6) (v := .int (0 : Int32)) (ty := .boolean) (C := RX6) (T := TX6) (N := 23) hx hb hts hiX6 tyX6 tyX6_ok nmX6 hown hK.1 hP hD hS 0 rfl rfl 20 (by decide) (hts (.fieldLink RX6 105 "FencePilotModel" "forced" "Z") (by decide +kernel)) (fun _ h9 => h9) rfl (by decide +kernel) rfl rfl (Nat.le_of_ble_eq_true rfl) dX6_become_97 (fun H locs hP hD hS => ?_)
      have hP : va_P D vwCl [(o, .inr (6, [.int kg, .int kc, .ref kax, .ref kay, .int ke, .int ki, .ref kai, .int kw, .int ku, .int kn, .int kq, .int kr, .ref kah, .ref kas, .ref kap, .ref kad, .int kl, .int kz, .int kt, .int md, .int (0 : Int32), .int kh, .ref kac])), (kac, .inl (cI, 16, .inl fc))] H := hP
      have hD : va_D A [(o, .inr (6, [.int kg, .int kc, .ref kax, .ref kay, .int ke, .int ki, .ref kai, .int kw, .int ku, .int kn, .int kq, .int kr, .ref kah, .ref kas, .ref kap, .ref kad, .int kl, .int kz, .int kt, .int md, .int (0 : Int32), .int kh, .ref kac])), (kac, .inl (cI, 16, .inl fc))] := hD
      exact kk_rv (md, (0 : Int32), kh, fc) hx hb hr hlk dX6_become_100 hS (hP.sub [0, 1] rfl) (hD.sub [0, 1] (by decide) rfl) (by show (md, (0 : Int32), kh, fc) = f_X6_become kg kc ke ki kw ku kn kq kr kl kz kt km kf kh fc md; unfold f_X6_become; rw [if_pos c_1]; rw [if_pos c_2]; try rfl)
    · refine lv_iload_n hx hb dX6_become_87 rfl (lv_at hl 1 rfl) ?_
      refine lv_iconst (v := 5) hx hb dX6_become_88 (by decide) ?_
      refine lv_icmp_ne (tgt := 96) hx hb dX6_become_89 (by decide) (fun c_3 => ?_) (fun c_3 => ?_)
      · refine lv_iconst (v := 0) hx hb dX6_become_96 (by decide) ?_
        refine va_put (D := D) (ci := 6) (v := .int (0 : Int32)) (ty := .boolean) (C := RX6) (T := TX6) (N := 23) hx hb hts hiX6 tyX6 tyX6_ok nmX6 hown hK.1 hP hD hS 0 rfl rfl 20 (by decide) (hts (.fieldLink RX6 105 "FencePilotModel" "forced" "Z") (by decide +kernel)) (fun _ h9 => h9) rfl (by decide +kernel) rfl rfl (Nat.le_of_ble_eq_true rfl) dX6_become_97 (fun H locs hP hD hS => ?_)
        have hP : va_P D vwCl [(o, .inr (6, [.int kg, .int kc, .ref kax, .ref kay, .int ke, .int ki, .ref kai, .int kw, .int ku, .int kn, .int kq, .int kr, .ref kah, .ref kas, .ref kap, .ref kad, .int kl, .int kz, .int kt, .int md, .int (0 : Int32), .int kh, .ref kac])), (kac, .inl (cI, 16, .inl fc))] H := hP
        have hD : va_D A [(o, .inr (6, [.int kg, .int kc, .ref kax, .ref kay, .int ke, .int ki, .ref kai, .int kw, .int ku, .int kn, .int kq, .int kr, .ref kah, .ref kas, .ref kap, .ref kad, .int kl, .int kz, .int kt, .int md, .int (0 : Int32), .int kh, .ref kac])), (kac, .inl (cI, 16, .inl fc))] := hD
        exact kk_rv (md, (0 : Int32), kh, fc) hx hb hr hlk dX6_become_100 hS (hP.sub [0, 1] rfl) (hD.sub [0, 1] (by decide) rfl) (by show (md, (0 : Int32), kh, fc) = f_X6_become kg kc ke ki kw ku kn kq kr kl kz kt km kf kh fc md; unfold f_X6_become; rw [if_pos c_1]; rw [if_neg c_2]; rw [if_neg c_3]; try rfl)
      · refine lv_iconst (v := 1) hx hb dX6_become_92 (by decide) ?_
        refine lv_goto (tgt := 97) hx hb dX6_become_93 (by decide) ?_
        refine va_put (D := D) (ci := 6) (v := .int (1 : Int32)) (ty := .boolean) (C := RX6) (T := TX6) (N := 23) hx hb hts hiX6 tyX6 tyX6_ok nmX6 hown hK.1 hP hD hS 0 rfl rfl 20 (by decide) (hts (.fieldLink RX6 105 "FencePilotModel" "forced" "Z") (by decide +kernel)) (fun _ h9 => h9) rfl (by decide +kernel) rfl rfl (Nat.le_of_ble_eq_true rfl) dX6_become_97 (fun H locs hP hD hS => ?_)
        have hP : va_P D vwCl [(o, .inr (6, [.int kg, .int kc, .ref kax, .ref kay, .int ke, .int ki, .ref kai, .int kw, .int ku, .int kn, .int kq, .int kr, .ref kah, .ref kas, .ref kap, .ref kad, .int kl, .int kz, .int kt, .int md, .int (1 : Int32), .int kh, .ref kac])), (kac, .inl (cI, 16, .inl fc))] H := hP
        have hD : va_D A [(o, .inr (6, [.int kg, .int kc, .ref kax, .ref kay, .int ke, .int ki, .ref kai, .int kw, .int ku, .int kn, .int kq, .int kr, .ref kah, .ref kas, .ref kap, .ref kad, .int kl, .int kz, .int kt, .int md, .int (1 : Int32), .int kh, .ref kac])), (kac, .inl (cI, 16, .inl fc))] := hD
        exact kk_rv (md, (1 : Int32), kh, fc) hx hb hr hlk dX6_become_100 hS (hP.sub [0, 1] rfl) (hD.sub [0, 1] (by decide) rfl) (by show (md, (1 : Int32), kh, fc) = f_X6_become kg kc ke ki kw ku kn kq kr kl kz kt km kf kh fc md; unfold f_X6_become; rw [if_pos c_1]; rw [if_neg c_2]; rw [if_pos c_3]; try rfl)
  · refine lv_bipush (v := 15) hx hb dX6_become_8 (by decide) ?_
    refine lv_istore_n (lv' := [(2, .int (15 : Int32)), (0, .ref o), (1, .int md)]) hx hb dX6_become_10 rfl hl (by decide) rfl (fun ls hl => ?_)
    exact lp_X6_become_lp l D cI cZ o kax kay kai kah kas kap kad kac kg kc ke ki kw ku kn kq kr kl kz kt km kf kh fc md hX0 (f_X6_become kg kc ke ki kw ku kn kq kr kl kz kt km kf kh fc md) 16 (15 : Int32) fc _ _ _ ⟨by decide, by decide, by decide⟩ (by show f_X6_become kg kc ke ki kw ku kn kq kr kl kz kt km kf kh fc md = (g_X6_become_lp kg kc ke ki kw ku kn kq kr kl kz kt km kf kh fc md 16 (15 : Int32) fc); unfold f_X6_become; rw [if_neg c_1]; try rfl) (hP.sub [0, 1] rfl) (hD.sub [0, 1] (by decide) rfl) hS (lv_sub hl [1, 2, 0] rfl)
def f_X6_arm (kg : Int32) (kc : Int32) (ke : Int32) (ki : Int32) (kw : Int32) (ku : Int32) (kn : Int32) (kq : Int32) (kr : Int32) (kl : Int32) (kz : Int32) (kt : Int32) (km : Int32) (kf : Int32) (kh : Int32) (fx : Nat → Int32) (fy : Nat → Int32) (fp : Nat → Int32) (fc : Nat → Int32) : Int32 × Int32 × Int32 × Int32 × (Nat → Int32) := (if km = (0 : Int32) then (if kc = (0 : Int32) then ((-7 : Int32), km, kf, kh, fc) else (if (0 : Int32) < kl then ((-8 : Int32), km, kf, kh, fc) else (if (f_X6_safeAt kg kc ke ki kw ku kn kq kr kl kz kt km kf kh fx fy (fp (0 : Int32).toNatClampNeg) (fp (1 : Int32).toNatClampNeg)) = (0 : Int32) then ((-8 : Int32), km, kf, kh, fc) else (match (f_X6_become kg kc ke ki kw ku kn kq kr kl kz kt km kf kh fc (1 : Int32)) with | (u_7, u_8, u_9, u_10) => ((0 : Int32), u_7, u_8, u_9, u_10))))) else ((-1 : Int32), km, kf, kh, fc))
set_option maxHeartbeats 4000000 in
set_option maxRecDepth 100000 in
theorem k_X6_arm (l : Launch) (D : va_G) (cI cZ : ClassId) (o : Nat) (kax : Nat) (kay : Nat) (kai : Nat) (kah : Nat) (kas : Nat) (kap : Nat) (kad : Nat) (kac : Nat) (sz : Nat) (kg : Int32) (kc : Int32) (ke : Int32) (ki : Int32) (kw : Int32) (ku : Int32) (kn : Int32) (kq : Int32) (kr : Int32) (kl : Int32) (kz : Int32) (kt : Int32) (km : Int32) (kf : Int32) (kh : Int32) (fx : Nat → Int32) (fy : Nat → Int32) (fp : Nat → Int32) (fc : Nat → Int32)  (hkc : kk_L kc 8) : kk_Mi l D cI cZ yX6_arm wsX6_arm ({ frames := 4, cells := 0, slots := 0, locals := 109 } : Room) [.ref o] sz [(o, .inr (6, [.int kg, .int kc, .ref kax, .ref kay, .int ke, .int ki, .ref kai, .int kw, .int ku, .int kn, .int kq, .int kr, .ref kah, .ref kas, .ref kap, .ref kad, .int kl, .int kz, .int kt, .int km, .int kf, .int kh, .ref kac])), (kax, .inl (cI, 16, .inl fx)), (kay, .inl (cI, 16, .inl fy)), (kap, .inl (cI, 3, .inl fp)), (kac, .inl (cI, 16, .inl fc))] (fun (r : Int32) (u : Int32 × Int32 × Int32 × (Nat → Int32)) => (r, u) = f_X6_arm kg kc ke ki kw ku kn kq kr kl kz kt km kf kh fx fy fp fc) (fun u => [(o, .inr (6, [.int kg, .int kc, .ref kax, .ref kay, .int ke, .int ki, .ref kai, .int kw, .int ku, .int kn, .int kq, .int kr, .ref kah, .ref kas, .ref kap, .ref kad, .int kl, .int kz, .int kt, .int u.1, .int u.2.1, .int u.2.2.1, .ref kac])), (kax, .inl (cI, 16, .inl fx)), (kay, .inl (cI, 16, .inl fy)), (kap, .inl (cI, 3, .inl fp)), (kac, .inl (cI, 16, .inl u.2.2.2))]) 0 0 := by
  refine kk_enti (cc := cX6_arm) (maxL := 1) (ret := (some .int)) (by decide +kernel) rfl (Nat.le_of_ble_eq_true rfl) (fun p e s m args below meth c A ls hX hP hD hS hl => ?_)
  obtain ⟨hx, hb, hml, hown, hts, hr, hlk, hnm, hK, hA⟩ := hX
  have hown : s.vm.findClass RX6 = some m.cls := hown
  have hiX6 : ∀ w ∈ wsX60, w ∈ wsX6_arm := by decide +kernel
  have hl : lv_has ls 1 [(0, .ref o)] := hl
  refine lv_aload_n hx hb dX6_arm_0 rfl (lv_at hl 0 rfl) ?_
  refine va_get (D := D) hx hb hts hiX6 hown hK.1 hP 0 rfl rfl 19 (by decide) (hts (.fieldLink RX6 62 "FencePilotModel" "mode" "I") (by decide +kernel)) (fun _ h9 => h9) rfl dX6_arm_1 ?_
  refine lv_if_eq (tgt := 9) hx hb dX6_arm_4 (by decide) (fun c_1 => ?_) (fun c_1 => ?_)
  · refine lv_aload_n hx hb dX6_arm_9 rfl (lv_at hl 0 rfl) ?_
    refine va_get (D := D) hx hb hts hiX6 hown hK.1 hP 0 rfl rfl 1 (by decide) (hts (.fieldLink RX6 50 "FencePilotModel" "corners" "I") (by decide +kernel)) (fun _ h9 => h9) rfl dX6_arm_10 ?_
    refine lv_if_ne (tgt := 19) hx hb dX6_arm_13 (by decide) (fun c_2 => ?_) (fun c_2 => ?_)
    · refine lv_aload_n hx hb dX6_arm_19 rfl (lv_at hl 0 rfl) ?_
      refine va_get (D := D) hx hb hts hiX6 hown hK.1 hP 0 rfl rfl 16 (by decide) (hts (.fieldLink RX6 32 "FencePilotModel" "lost" "I") (by decide +kernel)) (fun _ h9 => h9) rfl dX6_arm_20 ?_
      refine lv_if_gt (tgt := 45) hx hb dX6_arm_23 (by decide) (fun c_3 => ?_) (fun c_3 => ?_)
      · refine lv_bipush (v := -8) hx hb dX6_arm_45 (by decide) ?_
        exact kk_ri (km, kf, kh, fc) hx hb hr hlk dX6_arm_47 hS (hP.sub [0, 1, 2, 3, 4] rfl) (hD.sub [0, 1, 2, 3, 4] (by decide) rfl) (by show ((-8 : Int32), km, kf, kh, fc) = f_X6_arm kg kc ke ki kw ku kn kq kr kl kz kt km kf kh fx fy fp fc; unfold f_X6_arm; rw [if_pos c_1]; rw [if_neg c_2]; rw [if_pos c_3]; try rfl)
      · refine lv_aload_n hx hb dX6_arm_26 rfl (lv_at hl 0 rfl) ?_
        refine lv_aload_n hx hb dX6_arm_27 rfl (lv_at hl 0 rfl) ?_
        refine va_get (D := D) hx hb hts hiX6 hown hK.1 hP 0 rfl rfl 14 (by decide) (hts (.fieldLink RX6 26 "FencePilotModel" "position" "[I") (by decide +kernel)) (fun _ h9 => h9) rfl dX6_arm_28 ?_
        refine lv_iconst (v := 0) hx hb dX6_arm_31 (by decide) ?_
        refine va_iald hx hb hK.1 hP 3 0 rfl rfl (by unfold vp_in; decide) dX6_arm_32 ?_
        refine lv_aload_n hx hb dX6_arm_33 rfl (lv_at hl 0 rfl) ?_
        refine va_get (D := D) hx hb hts hiX6 hown hK.1 hP 0 rfl rfl 14 (by decide) (hts (.fieldLink RX6 26 "FencePilotModel" "position" "[I") (by decide +kernel)) (fun _ h9 => h9) rfl dX6_arm_34 ?_
        refine lv_iconst (v := 1) hx hb dX6_arm_37 (by decide) ?_
        refine va_iald hx hb hK.1 hP 3 0 rfl rfl (by unfold vp_in; decide) dX6_arm_38 ?_
        refine kk_cVi (wc := [(o, .inr (6, [.int kg, .int kc, .ref kax, .ref kay, .int ke, .int ki, .ref kai, .int kw, .int ku, .int kn, .int kq, .int kr, .ref kah, .ref kas, .ref kap, .ref kad, .int kl, .int kz, .int kt, .int km, .int kf, .int kh, .ref kac])), (kax, .inl (cI, 16, .inl fx)), (kay, .inl (cI, 16, .inl fy))]) (wr := [(kap, .inl (cI, 3, .inl fp)), (kac, .inl (cI, 16, .inl fc))]) ⟨hx, hb, hml, hown, hts⟩ hK hP hD hS hA [0, 1, 2] [3, 4] (k_X6_safeAt l D cI cZ o kax kay kai kah kas kap kad kac s.heap.size kg kc ke ki kw ku kn kq kr kl kz kt km kf kh fx fy (fp (0 : Int32).toNatClampNeg) (fp (1 : Int32).toNatClampNeg) (by assumption)) (cwV 2 hts gX6_arm_X6_safeAt rfl rfl rfl (by decide +kernel) ⟨(Nat.le_of_ble_eq_true rfl), (Nat.le_of_ble_eq_true rfl)⟩) rfl rfl (by decide) (by decide) (by decide) 0 6 rfl rfl rfl rfl hl.1 rfl (Nat.le_of_ble_eq_true rfl) dX6_arm_39 ⟨(Nat.le_of_ble_eq_true rfl), (Nat.le_of_ble_eq_true rfl)⟩ (fun r_4 u H locs hw_5 hP hD hS => ?_)
        have hw_5 : (f_X6_safeAt kg kc ke ki kw ku kn kq kr kl kz kt km kf kh fx fy (fp (0 : Int32).toNatClampNeg) (fp (1 : Int32).toNatClampNeg)) = r_4 := (hw_5 : r_4 = (f_X6_safeAt kg kc ke ki kw ku kn kq kr kl kz kt km kf kh fx fy (fp (0 : Int32).toNatClampNeg) (fp (1 : Int32).toNatClampNeg))).symm
        subst hw_5
        have hP : va_P D vwCl [(kap, .inl (cI, 3, .inl fp)), (kac, .inl (cI, 16, .inl fc)), (o, .inr (6, [.int kg, .int kc, .ref kax, .ref kay, .int ke, .int ki, .ref kai, .int kw, .int ku, .int kn, .int kq, .int kr, .ref kah, .ref kas, .ref kap, .ref kad, .int kl, .int kz, .int kt, .int km, .int kf, .int kh, .ref kac])), (kax, .inl (cI, 16, .inl fx)), (kay, .inl (cI, 16, .inl fy))] H := hP
        have hD : va_D A [(kap, .inl (cI, 3, .inl fp)), (kac, .inl (cI, 16, .inl fc)), (o, .inr (6, [.int kg, .int kc, .ref kax, .ref kay, .int ke, .int ki, .ref kai, .int kw, .int ku, .int kn, .int kq, .int kr, .ref kah, .ref kas, .ref kap, .ref kad, .int kl, .int kz, .int kt, .int km, .int kf, .int kh, .ref kac])), (kax, .inl (cI, 16, .inl fx)), (kay, .inl (cI, 16, .inl fy))] := hD
        refine lv_if_ne (tgt := 48) hx hb dX6_arm_42 (by decide) (fun c_6 => ?_) (fun c_6 => ?_)
        · refine lv_aload_n hx hb dX6_arm_48 rfl (lv_at hl 0 rfl) ?_
          refine lv_iconst (v := 1) hx hb dX6_arm_49 (by decide) ?_
          refine kk_cVv (wc := [(o, .inr (6, [.int kg, .int kc, .ref kax, .ref kay, .int ke, .int ki, .ref kai, .int kw, .int ku, .int kn, .int kq, .int kr, .ref kah, .ref kas, .ref kap, .ref kad, .int kl, .int kz, .int kt, .int km, .int kf, .int kh, .ref kac])), (kac, .inl (cI, 16, .inl fc))]) (wr := [(kap, .inl (cI, 3, .inl fp)), (kax, .inl (cI, 16, .inl fx)), (kay, .inl (cI, 16, .inl fy))]) ⟨hx, hb, hml, hown, hts⟩ hK hP hD hS hA [2, 1] [0, 3, 4] (k_X6_become l D cI cZ o kax kay kai kah kas kap kad kac H.size kg kc ke ki kw ku kn kq kr kl kz kt km kf kh fc (1 : Int32)) (cwV 1 hts gX6_arm_X6_become rfl rfl rfl (by decide +kernel) ⟨(Nat.le_of_ble_eq_true rfl), (Nat.le_of_ble_eq_true rfl)⟩) rfl rfl (by decide) (by decide) (by decide) 0 6 rfl rfl rfl rfl hl.1 rfl (Nat.le_of_ble_eq_true rfl) dX6_arm_50 ⟨(Nat.le_of_ble_eq_true rfl), (Nat.le_of_ble_eq_true rfl)⟩ (fun u H locs hw_12 hP hD hS => ?_)
          obtain ⟨u_7, u_8, u_9, u_10⟩ := u
          have hw_12 : (u_7, u_8, u_9, u_10) = (f_X6_become kg kc ke ki kw ku kn kq kr kl kz kt km kf kh fc (1 : Int32)) := hw_12
          have hP : va_P D vwCl [(kap, .inl (cI, 3, .inl fp)), (kax, .inl (cI, 16, .inl fx)), (kay, .inl (cI, 16, .inl fy)), (o, .inr (6, [.int kg, .int kc, .ref kax, .ref kay, .int ke, .int ki, .ref kai, .int kw, .int ku, .int kn, .int kq, .int kr, .ref kah, .ref kas, .ref kap, .ref kad, .int kl, .int kz, .int kt, .int u_7, .int u_8, .int u_9, .ref kac])), (kac, .inl (cI, 16, .inl u_10))] H := hP
          have hD : va_D A [(kap, .inl (cI, 3, .inl fp)), (kax, .inl (cI, 16, .inl fx)), (kay, .inl (cI, 16, .inl fy)), (o, .inr (6, [.int kg, .int kc, .ref kax, .ref kay, .int ke, .int ki, .ref kai, .int kw, .int ku, .int kn, .int kq, .int kr, .ref kah, .ref kas, .ref kap, .ref kad, .int kl, .int kz, .int kt, .int u_7, .int u_8, .int u_9, .ref kac])), (kac, .inl (cI, 16, .inl u_10))] := hD
          refine lv_iconst (v := 0) hx hb dX6_arm_53 (by decide) ?_
          exact kk_ri (u_7, u_8, u_9, u_10) hx hb hr hlk dX6_arm_54 hS (hP.sub [3, 1, 2, 0, 4] rfl) (hD.sub [3, 1, 2, 0, 4] (by decide) rfl) (by show ((0 : Int32), u_7, u_8, u_9, u_10) = f_X6_arm kg kc ke ki kw ku kn kq kr kl kz kt km kf kh fx fy fp fc; unfold f_X6_arm; rw [if_pos c_1]; rw [if_neg c_2]; rw [if_neg c_3]; rw [if_neg c_6]; rw [← hw_12]; try dsimp only; try rfl)
        · refine lv_bipush (v := -8) hx hb dX6_arm_45 (by decide) ?_
          exact kk_ri (km, kf, kh, fc) hx hb hr hlk dX6_arm_47 hS (hP.sub [2, 3, 4, 0, 1] rfl) (hD.sub [2, 3, 4, 0, 1] (by decide) rfl) (by show ((-8 : Int32), km, kf, kh, fc) = f_X6_arm kg kc ke ki kw ku kn kq kr kl kz kt km kf kh fx fy fp fc; unfold f_X6_arm; rw [if_pos c_1]; rw [if_neg c_2]; rw [if_neg c_3]; rw [if_pos c_6]; try rfl)
    · refine lv_bipush (v := -7) hx hb dX6_arm_16 (by decide) ?_
      exact kk_ri (km, kf, kh, fc) hx hb hr hlk dX6_arm_18 hS (hP.sub [0, 1, 2, 3, 4] rfl) (hD.sub [0, 1, 2, 3, 4] (by decide) rfl) (by show ((-7 : Int32), km, kf, kh, fc) = f_X6_arm kg kc ke ki kw ku kn kq kr kl kz kt km kf kh fx fy fp fc; unfold f_X6_arm; rw [if_pos c_1]; rw [if_pos c_2]; try rfl)
  · refine lv_iconst (v := -1) hx hb dX6_arm_7 (by decide) ?_
    exact kk_ri (km, kf, kh, fc) hx hb hr hlk dX6_arm_8 hS (hP.sub [0, 1, 2, 3, 4] rfl) (hD.sub [0, 1, 2, 3, 4] (by decide) rfl) (by show ((-1 : Int32), km, kf, kh, fc) = f_X6_arm kg kc ke ki kw ku kn kq kr kl kz kt km kf kh fx fy fp fc; unfold f_X6_arm; rw [if_neg c_1]; try rfl)
def f_X6_command (kg : Int32) (kc : Int32) (ke : Int32) (ki : Int32) (kw : Int32) (ku : Int32) (kn : Int32) (kq : Int32) (kr : Int32) (kl : Int32) (kz : Int32) (kt : Int32) (km : Int32) (kf : Int32) (kh : Int32) (fc : Nat → Int32) (md : Int32) : Int32 × Int32 × Int32 × Int32 × (Nat → Int32) := (if (f_X6_within md (2 : Int32) (5 : Int32)) = (0 : Int32) then ((-5 : Int32), km, kf, kh, fc) else (if km = (0 : Int32) then ((-9 : Int32), km, kf, kh, fc) else (if kf = (0 : Int32) then (if km = (1 : Int32) then (if md = (2 : Int32) then ((-10 : Int32), km, kf, kh, fc) else (match (f_X6_become kg kc ke ki kw ku kn kq kr kl kz kt km kf kh fc md) with | (u_22, u_23, u_24, u_25) => ((0 : Int32), u_22, u_23, u_24, u_25))) else (if md = (2 : Int32) then (if ki = (0 : Int32) then ((-11 : Int32), km, kf, kh, fc) else (match (f_X6_become kg kc ke ki kw ku kn kq kr kl kz kt km kf kh fc md) with | (u_15, u_16, u_17, u_18) => ((0 : Int32), u_15, u_16, u_17, u_18))) else (match (f_X6_become kg kc ke ki kw ku kn kq kr kl kz kt km kf kh fc md) with | (u_8, u_9, u_10, u_11) => ((0 : Int32), u_8, u_9, u_10, u_11)))) else ((-10 : Int32), km, kf, kh, fc))))
set_option maxHeartbeats 4000000 in
set_option maxRecDepth 100000 in
theorem k_X6_command (l : Launch) (D : va_G) (cI cZ : ClassId) (o : Nat) (kax : Nat) (kay : Nat) (kai : Nat) (kah : Nat) (kas : Nat) (kap : Nat) (kad : Nat) (kac : Nat) (sz : Nat) (kg : Int32) (kc : Int32) (ke : Int32) (ki : Int32) (kw : Int32) (ku : Int32) (kn : Int32) (kq : Int32) (kr : Int32) (kl : Int32) (kz : Int32) (kt : Int32) (km : Int32) (kf : Int32) (kh : Int32) (fc : Nat → Int32) (md : Int32)  : kk_Mi l D cI cZ yX6_command wsX6_command ({ frames := 1, cells := 0, slots := 0, locals := 22 } : Room) [.ref o, .int md] sz [(o, .inr (6, [.int kg, .int kc, .ref kax, .ref kay, .int ke, .int ki, .ref kai, .int kw, .int ku, .int kn, .int kq, .int kr, .ref kah, .ref kas, .ref kap, .ref kad, .int kl, .int kz, .int kt, .int km, .int kf, .int kh, .ref kac])), (kac, .inl (cI, 16, .inl fc))] (fun (r : Int32) (u : Int32 × Int32 × Int32 × (Nat → Int32)) => (r, u) = f_X6_command kg kc ke ki kw ku kn kq kr kl kz kt km kf kh fc md) (fun u => [(o, .inr (6, [.int kg, .int kc, .ref kax, .ref kay, .int ke, .int ki, .ref kai, .int kw, .int ku, .int kn, .int kq, .int kr, .ref kah, .ref kas, .ref kap, .ref kad, .int kl, .int kz, .int kt, .int u.1, .int u.2.1, .int u.2.2.1, .ref kac])), (kac, .inl (cI, 16, .inl u.2.2.2))]) 0 0 := by
  refine kk_enti (cc := cX6_command) (maxL := 2) (ret := (some .int)) (by decide +kernel) rfl (Nat.le_of_ble_eq_true rfl) (fun p e s m args below meth c A ls hX hP hD hS hl => ?_)
  obtain ⟨hx, hb, hml, hown, hts, hr, hlk, hnm, hK, hA⟩ := hX
  have hown : s.vm.findClass RX6 = some m.cls := hown
  have hiX6 : ∀ w ∈ wsX60, w ∈ wsX6_command := by decide +kernel
  have hl : lv_has ls 2 [(0, .ref o), (1, .int md)] := hl
  refine lv_iload_n hx hb dX6_command_0 rfl (lv_at hl 1 rfl) ?_
  refine lv_iconst (v := 2) hx hb dX6_command_1 (by decide) ?_
  refine lv_iconst (v := 5) hx hb dX6_command_2 (by decide) ?_
  refine kk_cSi (wc := []) (wr := [(o, .inr (6, [.int kg, .int kc, .ref kax, .ref kay, .int ke, .int ki, .ref kai, .int kw, .int ku, .int kn, .int kq, .int kr, .ref kah, .ref kas, .ref kap, .ref kad, .int kl, .int kz, .int kt, .int km, .int kf, .int kh, .ref kac])), (kac, .inl (cI, 16, .inl fc))]) ⟨hx, hb, hml, hown, hts⟩ hK hP hD hS hA [] [0, 1] (k_X6_within l D cI cZ  s.heap.size md (2 : Int32) (5 : Int32)) (va_cwS 3 hts gX6_command_X6_within rfl rfl rfl (by decide +kernel) ⟨(Nat.le_of_ble_eq_true rfl), (Nat.le_of_ble_eq_true rfl)⟩) rfl rfl (by decide) (by decide) (by decide) rfl hl.1 rfl (Nat.le_of_ble_eq_true rfl) dX6_command_3 ⟨(Nat.le_of_ble_eq_true rfl), (Nat.le_of_ble_eq_true rfl)⟩ (fun r_1 u H locs hw_2 hP hD hS => ?_)
  have hw_2 : (f_X6_within md (2 : Int32) (5 : Int32)) = r_1 := (hw_2 : r_1 = (f_X6_within md (2 : Int32) (5 : Int32))).symm
  subst hw_2
  have hP : va_P D vwCl [(o, .inr (6, [.int kg, .int kc, .ref kax, .ref kay, .int ke, .int ki, .ref kai, .int kw, .int ku, .int kn, .int kq, .int kr, .ref kah, .ref kas, .ref kap, .ref kad, .int kl, .int kz, .int kt, .int km, .int kf, .int kh, .ref kac])), (kac, .inl (cI, 16, .inl fc))] H := hP
  have hD : va_D A [(o, .inr (6, [.int kg, .int kc, .ref kax, .ref kay, .int ke, .int ki, .ref kai, .int kw, .int ku, .int kn, .int kq, .int kr, .ref kah, .ref kas, .ref kap, .ref kad, .int kl, .int kz, .int kt, .int km, .int kf, .int kh, .ref kac])), (kac, .inl (cI, 16, .inl fc))] := hD
  refine lv_if_ne (tgt := 12) hx hb dX6_command_6 (by decide) (fun c_3 => ?_) (fun c_3 => ?_)
  · refine lv_aload_n hx hb dX6_command_12 rfl (lv_at hl 0 rfl) ?_
    refine va_get (D := D) hx hb hts hiX6 hown hK.1 hP 0 rfl rfl 19 (by decide) (hts (.fieldLink RX6 62 "FencePilotModel" "mode" "I") (by decide +kernel)) (fun _ h9 => h9) rfl dX6_command_13 ?_
    refine lv_if_ne (tgt := 22) hx hb dX6_command_16 (by decide) (fun c_4 => ?_) (fun c_4 => ?_)
    · refine lv_aload_n hx hb dX6_command_22 rfl (lv_at hl 0 rfl) ?_
      refine va_get (D := D) hx hb hts hiX6 hown hK.1 hP 0 rfl rfl 20 (by decide) (hts (.fieldLink RX6 105 "FencePilotModel" "forced" "Z") (by decide +kernel)) (fun _ h9 => h9) rfl dX6_command_23 ?_
      refine lv_if_ne (tgt := 42) hx hb dX6_command_26 (by decide) (fun c_5 => ?_) (fun c_5 => ?_)
      · refine lv_bipush (v := -10) hx hb dX6_command_42 (by decide) ?_
        exact kk_ri (km, kf, kh, fc) hx hb hr hlk dX6_command_44 hS (hP.sub [0, 1] rfl) (hD.sub [0, 1] (by decide) rfl) (by show ((-10 : Int32), km, kf, kh, fc) = f_X6_command kg kc ke ki kw ku kn kq kr kl kz kt km kf kh fc md; unfold f_X6_command; rw [if_neg c_3]; rw [if_neg c_4]; rw [if_neg c_5]; try rfl)
      · refine lv_aload_n hx hb dX6_command_29 rfl (lv_at hl 0 rfl) ?_
        refine va_get (D := D) hx hb hts hiX6 hown hK.1 hP 0 rfl rfl 19 (by decide) (hts (.fieldLink RX6 62 "FencePilotModel" "mode" "I") (by decide +kernel)) (fun _ h9 => h9) rfl dX6_command_30 ?_
        refine lv_iconst (v := 1) hx hb dX6_command_33 (by decide) ?_
        refine lv_icmp_ne (tgt := 45) hx hb dX6_command_34 (by decide) (fun c_6 => ?_) (fun c_6 => ?_)
        · refine lv_iload_n hx hb dX6_command_45 rfl (lv_at hl 1 rfl) ?_
          refine lv_iconst (v := 2) hx hb dX6_command_46 (by decide) ?_
          refine lv_icmp_ne (tgt := 60) hx hb dX6_command_47 (by decide) (fun c_7 => ?_) (fun c_7 => ?_)
          · refine lv_aload_n hx hb dX6_command_60 rfl (lv_at hl 0 rfl) ?_
            refine lv_iload_n hx hb dX6_command_61 rfl (lv_at hl 1 rfl) ?_
            refine kk_cVv (wc := [(o, .inr (6, [.int kg, .int kc, .ref kax, .ref kay, .int ke, .int ki, .ref kai, .int kw, .int ku, .int kn, .int kq, .int kr, .ref kah, .ref kas, .ref kap, .ref kad, .int kl, .int kz, .int kt, .int km, .int kf, .int kh, .ref kac])), (kac, .inl (cI, 16, .inl fc))]) (wr := []) ⟨hx, hb, hml, hown, hts⟩ hK hP hD hS hA [0, 1] [] (k_X6_become l D cI cZ o kax kay kai kah kas kap kad kac H.size kg kc ke ki kw ku kn kq kr kl kz kt km kf kh fc md) (cwV 1 hts gX6_command_X6_become rfl rfl rfl (by decide +kernel) ⟨(Nat.le_of_ble_eq_true rfl), (Nat.le_of_ble_eq_true rfl)⟩) rfl rfl (by decide) (by decide) (by decide) 0 6 rfl rfl rfl rfl hl.1 rfl (Nat.le_of_ble_eq_true rfl) dX6_command_62 ⟨(Nat.le_of_ble_eq_true rfl), (Nat.le_of_ble_eq_true rfl)⟩ (fun u H locs hw_13 hP hD hS => ?_)
            obtain ⟨u_8, u_9, u_10, u_11⟩ := u
            have hw_13 : (u_8, u_9, u_10, u_11) = (f_X6_become kg kc ke ki kw ku kn kq kr kl kz kt km kf kh fc md) := hw_13
            have hP : va_P D vwCl [(o, .inr (6, [.int kg, .int kc, .ref kax, .ref kay, .int ke, .int ki, .ref kai, .int kw, .int ku, .int kn, .int kq, .int kr, .ref kah, .ref kas, .ref kap, .ref kad, .int kl, .int kz, .int kt, .int u_8, .int u_9, .int u_10, .ref kac])), (kac, .inl (cI, 16, .inl u_11))] H := hP
            have hD : va_D A [(o, .inr (6, [.int kg, .int kc, .ref kax, .ref kay, .int ke, .int ki, .ref kai, .int kw, .int ku, .int kn, .int kq, .int kr, .ref kah, .ref kas, .ref kap, .ref kad, .int kl, .int kz, .int kt, .int u_8, .int u_9, .int u_10, .ref kac])), (kac, .inl (cI, 16, .inl u_11))] := hD
            refine lv_iconst (v := 0) hx hb dX6_command_65 (by decide) ?_
            exact kk_ri (u_8, u_9, u_10, u_11) hx hb hr hlk dX6_command_66 hS (hP.sub [0, 1] rfl) (hD.sub [0, 1] (by decide) rfl) (by show ((0 : Int32), u_8, u_9, u_10, u_11) = f_X6_command kg kc ke ki kw ku kn kq kr kl kz kt km kf kh fc md; unfold f_X6_command; rw [if_neg c_3]; rw [if_neg c_4]; rw [if_pos c_5]; rw [if_neg c_6]; rw [if_neg c_7]; rw [← hw_13]; try dsimp only; try rfl)
          · refine lv_aload_n hx hb dX6_command_50 rfl (lv_at hl 0 rfl) ?_
            refine va_get (D := D) hx hb hts hiX6 hown hK.1 hP 0 rfl rfl 5 (by decide) (hts (.fieldLink RX6 90 "FencePilotModel" "items" "I") (by decide +kernel)) (fun _ h9 => h9) rfl dX6_command_51 ?_
            refine lv_if_ne (tgt := 60) hx hb dX6_command_54 (by decide) (fun c_14 => ?_) (fun c_14 => ?_)
            · refine lv_aload_n hx hb dX6_command_60 rfl (lv_at hl 0 rfl) ?_
              refine lv_iload_n hx hb dX6_command_61 rfl (lv_at hl 1 rfl) ?_
              refine kk_cVv (wc := [(o, .inr (6, [.int kg, .int kc, .ref kax, .ref kay, .int ke, .int ki, .ref kai, .int kw, .int ku, .int kn, .int kq, .int kr, .ref kah, .ref kas, .ref kap, .ref kad, .int kl, .int kz, .int kt, .int km, .int kf, .int kh, .ref kac])), (kac, .inl (cI, 16, .inl fc))]) (wr := []) ⟨hx, hb, hml, hown, hts⟩ hK hP hD hS hA [0, 1] [] (k_X6_become l D cI cZ o kax kay kai kah kas kap kad kac H.size kg kc ke ki kw ku kn kq kr kl kz kt km kf kh fc md) (cwV 1 hts gX6_command_X6_become rfl rfl rfl (by decide +kernel) ⟨(Nat.le_of_ble_eq_true rfl), (Nat.le_of_ble_eq_true rfl)⟩) rfl rfl (by decide) (by decide) (by decide) 0 6 rfl rfl rfl rfl hl.1 rfl (Nat.le_of_ble_eq_true rfl) dX6_command_62 ⟨(Nat.le_of_ble_eq_true rfl), (Nat.le_of_ble_eq_true rfl)⟩ (fun u H locs hw_20 hP hD hS => ?_)
              obtain ⟨u_15, u_16, u_17, u_18⟩ := u
              have hw_20 : (u_15, u_16, u_17, u_18) = (f_X6_become kg kc ke ki kw ku kn kq kr kl kz kt km kf kh fc md) := hw_20
              have hP : va_P D vwCl [(o, .inr (6, [.int kg, .int kc, .ref kax, .ref kay, .int ke, .int ki, .ref kai, .int kw, .int ku, .int kn, .int kq, .int kr, .ref kah, .ref kas, .ref kap, .ref kad, .int kl, .int kz, .int kt, .int u_15, .int u_16, .int u_17, .ref kac])), (kac, .inl (cI, 16, .inl u_18))] H := hP
              have hD : va_D A [(o, .inr (6, [.int kg, .int kc, .ref kax, .ref kay, .int ke, .int ki, .ref kai, .int kw, .int ku, .int kn, .int kq, .int kr, .ref kah, .ref kas, .ref kap, .ref kad, .int kl, .int kz, .int kt, .int u_15, .int u_16, .int u_17, .ref kac])), (kac, .inl (cI, 16, .inl u_18))] := hD
              refine lv_iconst (v := 0) hx hb dX6_command_65 (by decide) ?_
              exact kk_ri (u_15, u_16, u_17, u_18) hx hb hr hlk dX6_command_66 hS (hP.sub [0, 1] rfl) (hD.sub [0, 1] (by decide) rfl) (by show ((0 : Int32), u_15, u_16, u_17, u_18) = f_X6_command kg kc ke ki kw ku kn kq kr kl kz kt km kf kh fc md; unfold f_X6_command; rw [if_neg c_3]; rw [if_neg c_4]; rw [if_pos c_5]; rw [if_neg c_6]; rw [if_pos c_7]; rw [if_neg c_14]; rw [← hw_20]; try dsimp only; try rfl)
            · refine lv_bipush (v := -11) hx hb dX6_command_57 (by decide) ?_
              exact kk_ri (km, kf, kh, fc) hx hb hr hlk dX6_command_59 hS (hP.sub [0, 1] rfl) (hD.sub [0, 1] (by decide) rfl) (by show ((-11 : Int32), km, kf, kh, fc) = f_X6_command kg kc ke ki kw ku kn kq kr kl kz kt km kf kh fc md; unfold f_X6_command; rw [if_neg c_3]; rw [if_neg c_4]; rw [if_pos c_5]; rw [if_neg c_6]; rw [if_pos c_7]; rw [if_pos c_14]; try rfl)
        · refine lv_iload_n hx hb dX6_command_37 rfl (lv_at hl 1 rfl) ?_
          refine lv_iconst (v := 2) hx hb dX6_command_38 (by decide) ?_
          refine lv_icmp_ne (tgt := 45) hx hb dX6_command_39 (by decide) (fun c_21 => ?_) (fun c_21 => ?_)
          · refine lv_iload_n hx hb dX6_command_45 rfl (lv_at hl 1 rfl) ?_
            refine lv_iconst (v := 2) hx hb dX6_command_46 (by decide) ?_
            refine lv_icmp_ne (tgt := 60) hx hb dX6_command_47 (by decide) (fun _ => ?_) (fun z => absurd z c_21)
            refine lv_aload_n hx hb dX6_command_60 rfl (lv_at hl 0 rfl) ?_
            refine lv_iload_n hx hb dX6_command_61 rfl (lv_at hl 1 rfl) ?_
            refine kk_cVv (wc := [(o, .inr (6, [.int kg, .int kc, .ref kax, .ref kay, .int ke, .int ki, .ref kai, .int kw, .int ku, .int kn, .int kq, .int kr, .ref kah, .ref kas, .ref kap, .ref kad, .int kl, .int kz, .int kt, .int km, .int kf, .int kh, .ref kac])), (kac, .inl (cI, 16, .inl fc))]) (wr := []) ⟨hx, hb, hml, hown, hts⟩ hK hP hD hS hA [0, 1] [] (k_X6_become l D cI cZ o kax kay kai kah kas kap kad kac H.size kg kc ke ki kw ku kn kq kr kl kz kt km kf kh fc md) (cwV 1 hts gX6_command_X6_become rfl rfl rfl (by decide +kernel) ⟨(Nat.le_of_ble_eq_true rfl), (Nat.le_of_ble_eq_true rfl)⟩) rfl rfl (by decide) (by decide) (by decide) 0 6 rfl rfl rfl rfl hl.1 rfl (Nat.le_of_ble_eq_true rfl) dX6_command_62 ⟨(Nat.le_of_ble_eq_true rfl), (Nat.le_of_ble_eq_true rfl)⟩ (fun u H locs hw_27 hP hD hS => ?_)
            obtain ⟨u_22, u_23, u_24, u_25⟩ := u
            have hw_27 : (u_22, u_23, u_24, u_25) = (f_X6_become kg kc ke ki kw ku kn kq kr kl kz kt km kf kh fc md) := hw_27
            have hP : va_P D vwCl [(o, .inr (6, [.int kg, .int kc, .ref kax, .ref kay, .int ke, .int ki, .ref kai, .int kw, .int ku, .int kn, .int kq, .int kr, .ref kah, .ref kas, .ref kap, .ref kad, .int kl, .int kz, .int kt, .int u_22, .int u_23, .int u_24, .ref kac])), (kac, .inl (cI, 16, .inl u_25))] H := hP
            have hD : va_D A [(o, .inr (6, [.int kg, .int kc, .ref kax, .ref kay, .int ke, .int ki, .ref kai, .int kw, .int ku, .int kn, .int kq, .int kr, .ref kah, .ref kas, .ref kap, .ref kad, .int kl, .int kz, .int kt, .int u_22, .int u_23, .int u_24, .ref kac])), (kac, .inl (cI, 16, .inl u_25))] := hD
            refine lv_iconst (v := 0) hx hb dX6_command_65 (by decide) ?_
            exact kk_ri (u_22, u_23, u_24, u_25) hx hb hr hlk dX6_command_66 hS (hP.sub [0, 1] rfl) (hD.sub [0, 1] (by decide) rfl) (by show ((0 : Int32), u_22, u_23, u_24, u_25) = f_X6_command kg kc ke ki kw ku kn kq kr kl kz kt km kf kh fc md; unfold f_X6_command; rw [if_neg c_3]; rw [if_neg c_4]; rw [if_pos c_5]; rw [if_pos c_6]; rw [if_neg c_21]; rw [← hw_27]; try dsimp only; try rfl)
          · refine lv_bipush (v := -10) hx hb dX6_command_42 (by decide) ?_
            exact kk_ri (km, kf, kh, fc) hx hb hr hlk dX6_command_44 hS (hP.sub [0, 1] rfl) (hD.sub [0, 1] (by decide) rfl) (by show ((-10 : Int32), km, kf, kh, fc) = f_X6_command kg kc ke ki kw ku kn kq kr kl kz kt km kf kh fc md; unfold f_X6_command; rw [if_neg c_3]; rw [if_neg c_4]; rw [if_pos c_5]; rw [if_pos c_6]; rw [if_pos c_21]; try rfl)
    · refine lv_bipush (v := -9) hx hb dX6_command_19 (by decide) ?_
      exact kk_ri (km, kf, kh, fc) hx hb hr hlk dX6_command_21 hS (hP.sub [0, 1] rfl) (hD.sub [0, 1] (by decide) rfl) (by show ((-9 : Int32), km, kf, kh, fc) = f_X6_command kg kc ke ki kw ku kn kq kr kl kz kt km kf kh fc md; unfold f_X6_command; rw [if_neg c_3]; rw [if_pos c_4]; try rfl)
  · refine lv_bipush (v := -5) hx hb dX6_command_9 (by decide) ?_
    exact kk_ri (km, kf, kh, fc) hx hb hr hlk dX6_command_11 hS (hP.sub [0, 1] rfl) (hD.sub [0, 1] (by decide) rfl) (by show ((-5 : Int32), km, kf, kh, fc) = f_X6_command kg kc ke ki kw ku kn kq kr kl kz kt km kf kh fc md; unfold f_X6_command; rw [if_pos c_3]; try rfl)
