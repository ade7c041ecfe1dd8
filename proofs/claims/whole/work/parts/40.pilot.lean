def f_X5_isOnMap (x : Int32) (y : Int32) : Int32 := (if (f_X5_isWithin x (-10000 : Int32) (10000 : Int32)) = (0 : Int32) then (0 : Int32) else (if (f_X5_isWithin y (-10000 : Int32) (10000 : Int32)) = (0 : Int32) then (0 : Int32) else (1 : Int32)))
set_option maxHeartbeats 4000000 in
set_option maxRecDepth 100000 in
theorem k_X5_isOnMap (l : Launch) (D : va_G) (cI cZ : ClassId)  (sz : Nat)  (x : Int32) (y : Int32)  : kk_Mi l D cI cZ yX5_isOnMap wsX5_isOnMap ({ frames := 1, cells := 0, slots := 0, locals := 22 } : Room) [.int x, .int y] sz [] (fun (r : Int32) (_ : Unit) => r = f_X5_isOnMap x y) (fun _ => []) 0 0 := by
  refine kk_enti (cc := cX5_isOnMap) (maxL := 2) (ret := (some .boolean)) (by decide +kernel) rfl (Nat.le_of_ble_eq_true rfl) (fun p e s m args below meth c A ls hX hP hD hS hl => ?_)
  obtain ⟨hx, hb, hml, hown, hts, hr, hlk, hnm, hK, hA⟩ := hX
  have hown : s.vm.findClass RX5 = some m.cls := hown
  have hl : lv_has ls 2 [(0, .int x), (1, .int y)] := hl
  refine lv_iload_n hx hb dX5_isOnMap_0 rfl (lv_at hl 0 rfl) ?_
  refine lv_sipush (v := -10000) hx hb dX5_isOnMap_1 (by decide) ?_
  refine lv_sipush (v := 10000) hx hb dX5_isOnMap_4 (by decide) ?_
  refine kk_cSi (wc := []) (wr := []) ⟨hx, hb, hml, hown, hts⟩ hK hP hD hS hA [] [] (k_X5_isWithin l D cI cZ  s.heap.size x (-10000 : Int32) (10000 : Int32)) (va_cwS 3 hts gX5_isOnMap_X5_isWithin rfl rfl rfl (by decide +kernel) ⟨(Nat.le_of_ble_eq_true rfl), (Nat.le_of_ble_eq_true rfl)⟩) rfl rfl (by decide) (by decide) (by decide) rfl hl.1 rfl (Nat.le_of_ble_eq_true rfl) dX5_isOnMap_7 ⟨(Nat.le_of_ble_eq_true rfl), (Nat.le_of_ble_eq_true rfl)⟩ (fun r_1 u H locs hw_2 hP hD hS => ?_)
  have hw_2 : (f_X5_isWithin x (-10000 : Int32) (10000 : Int32)) = r_1 := (hw_2 : r_1 = (f_X5_isWithin x (-10000 : Int32) (10000 : Int32))).symm
  subst hw_2
  have hP : va_P D vwCl [] H := hP
  have hD : va_D A [] := hD
  refine lv_if_eq (tgt := 30) hx hb dX5_isOnMap_10 (by decide) (fun c_3 => ?_) (fun c_3 => ?_)
  · refine lv_iconst (v := 0) hx hb dX5_isOnMap_30 (by decide) ?_
    exact kk_rz () hx hb hr hlk dX5_isOnMap_31 hS (hP.sub [] rfl) (hD.sub [] (by decide) rfl) rfl (by show (0 : Int32) = f_X5_isOnMap x y; unfold f_X5_isOnMap; rw [if_pos c_3]; try rfl)
  · refine lv_iload_n hx hb dX5_isOnMap_13 rfl (lv_at hl 1 rfl) ?_
    refine lv_sipush (v := -10000) hx hb dX5_isOnMap_14 (by decide) ?_
    refine lv_sipush (v := 10000) hx hb dX5_isOnMap_17 (by decide) ?_
    refine kk_cSi (wc := []) (wr := []) ⟨hx, hb, hml, hown, hts⟩ hK hP hD hS hA [] [] (k_X5_isWithin l D cI cZ  H.size y (-10000 : Int32) (10000 : Int32)) (va_cwS 3 hts gX5_isOnMap_X5_isWithin rfl rfl rfl (by decide +kernel) ⟨(Nat.le_of_ble_eq_true rfl), (Nat.le_of_ble_eq_true rfl)⟩) rfl rfl (by decide) (by decide) (by decide) rfl hl.1 rfl (Nat.le_of_ble_eq_true rfl) dX5_isOnMap_20 ⟨(Nat.le_of_ble_eq_true rfl), (Nat.le_of_ble_eq_true rfl)⟩ (fun r_4 u H locs hw_5 hP hD hS => ?_)
    have hw_5 : (f_X5_isWithin y (-10000 : Int32) (10000 : Int32)) = r_4 := (hw_5 : r_4 = (f_X5_isWithin y (-10000 : Int32) (10000 : Int32))).symm
    subst hw_5
    have hP : va_P D vwCl [] H := hP
    have hD : va_D A [] := hD
    refine lv_if_eq (tgt := 30) hx hb dX5_isOnMap_23 (by decide) (fun c_6 => ?_) (fun c_6 => ?_)
    · refine lv_iconst (v := 0) hx hb dX5_isOnMap_30 (by decide) ?_
      exact kk_rz () hx hb hr hlk dX5_isOnMap_31 hS (hP.sub [] rfl) (hD.sub [] (by decide) rfl) rfl (by show (0 : Int32) = f_X5_isOnMap x y; unfold f_X5_isOnMap; rw [if_neg c_3]; rw [if_pos c_6]; try rfl)
    · refine lv_iconst (v := 1) hx hb dX5_isOnMap_26 (by decide) ?_
      refine lv_goto (tgt := 31) hx hb dX5_isOnMap_27 (by decide) ?_
      exact kk_rz () hx hb hr hlk dX5_isOnMap_31 hS (hP.sub [] rfl) (hD.sub [] (by decide) rfl) rfl (by show (1 : Int32) = f_X5_isOnMap x y; unfold f_X5_isOnMap; rw [if_neg c_3]; rw [if_neg c_6]; try rfl)
def f_X5_isInSensorReach (x : Int32) (y : Int32) : Int32 := (if (f_X5_isWithin x (-20000 : Int32) (20000 : Int32)) = (0 : Int32) then (0 : Int32) else (if (f_X5_isWithin y (-20000 : Int32) (20000 : Int32)) = (0 : Int32) then (0 : Int32) else (1 : Int32)))
set_option maxHeartbeats 4000000 in
set_option maxRecDepth 100000 in
theorem k_X5_isInSensorReach (l : Launch) (D : va_G) (cI cZ : ClassId)  (sz : Nat)  (x : Int32) (y : Int32)  : kk_Mi l D cI cZ yX5_isInSensorReach wsX5_isInSensorReach ({ frames := 1, cells := 0, slots := 0, locals := 22 } : Room) [.int x, .int y] sz [] (fun (r : Int32) (_ : Unit) => r = f_X5_isInSensorReach x y) (fun _ => []) 0 0 := by
  refine kk_enti (cc := cX5_isInSensorReach) (maxL := 2) (ret := (some .boolean)) (by decide +kernel) rfl (Nat.le_of_ble_eq_true rfl) (fun p e s m args below meth c A ls hX hP hD hS hl => ?_)
  obtain ⟨hx, hb, hml, hown, hts, hr, hlk, hnm, hK, hA⟩ := hX
  have hown : s.vm.findClass RX5 = some m.cls := hown
  have hl : lv_has ls 2 [(0, .int x), (1, .int y)] := hl
  refine lv_iload_n hx hb dX5_isInSensorReach_0 rfl (lv_at hl 0 rfl) ?_
  refine lv_sipush (v := -20000) hx hb dX5_isInSensorReach_1 (by decide) ?_
  refine lv_sipush (v := 20000) hx hb dX5_isInSensorReach_4 (by decide) ?_
  refine kk_cSi (wc := []) (wr := []) ⟨hx, hb, hml, hown, hts⟩ hK hP hD hS hA [] [] (k_X5_isWithin l D cI cZ  s.heap.size x (-20000 : Int32) (20000 : Int32)) (va_cwS 3 hts gX5_isInSensorReach_X5_isWithin rfl rfl rfl (by decide +kernel) ⟨(Nat.le_of_ble_eq_true rfl), (Nat.le_of_ble_eq_true rfl)⟩) rfl rfl (by decide) (by decide) (by decide) rfl hl.1 rfl (Nat.le_of_ble_eq_true rfl) dX5_isInSensorReach_7 ⟨(Nat.le_of_ble_eq_true rfl), (Nat.le_of_ble_eq_true rfl)⟩ (fun r_1 u H locs hw_2 hP hD hS => ?_)
  have hw_2 : (f_X5_isWithin x (-20000 : Int32) (20000 : Int32)) = r_1 := (hw_2 : r_1 = (f_X5_isWithin x (-20000 : Int32) (20000 : Int32))).symm
  subst hw_2
  have hP : va_P D vwCl [] H := hP
  have hD : va_D A [] := hD
  refine lv_if_eq (tgt := 30) hx hb dX5_isInSensorReach_10 (by decide) (fun c_3 => ?_) (fun c_3 => ?_)
  · refine lv_iconst (v := 0) hx hb dX5_isInSensorReach_30 (by decide) ?_
    exact kk_rz () hx hb hr hlk dX5_isInSensorReach_31 hS (hP.sub [] rfl) (hD.sub [] (by decide) rfl) rfl (by show (0 : Int32) = f_X5_isInSensorReach x y; unfold f_X5_isInSensorReach; rw [if_pos c_3]; try rfl)
  · refine lv_iload_n hx hb dX5_isInSensorReach_13 rfl (lv_at hl 1 rfl) ?_
    refine lv_sipush (v := -20000) hx hb dX5_isInSensorReach_14 (by decide) ?_
    refine lv_sipush (v := 20000) hx hb dX5_isInSensorReach_17 (by decide) ?_
    refine kk_cSi (wc := []) (wr := []) ⟨hx, hb, hml, hown, hts⟩ hK hP hD hS hA [] [] (k_X5_isWithin l D cI cZ  H.size y (-20000 : Int32) (20000 : Int32)) (va_cwS 3 hts gX5_isInSensorReach_X5_isWithin rfl rfl rfl (by decide +kernel) ⟨(Nat.le_of_ble_eq_true rfl), (Nat.le_of_ble_eq_true rfl)⟩) rfl rfl (by decide) (by decide) (by decide) rfl hl.1 rfl (Nat.le_of_ble_eq_true rfl) dX5_isInSensorReach_20 ⟨(Nat.le_of_ble_eq_true rfl), (Nat.le_of_ble_eq_true rfl)⟩ (fun r_4 u H locs hw_5 hP hD hS => ?_)
    have hw_5 : (f_X5_isWithin y (-20000 : Int32) (20000 : Int32)) = r_4 := (hw_5 : r_4 = (f_X5_isWithin y (-20000 : Int32) (20000 : Int32))).symm
    subst hw_5
    have hP : va_P D vwCl [] H := hP
    have hD : va_D A [] := hD
    refine lv_if_eq (tgt := 30) hx hb dX5_isInSensorReach_23 (by decide) (fun c_6 => ?_) (fun c_6 => ?_)
    · refine lv_iconst (v := 0) hx hb dX5_isInSensorReach_30 (by decide) ?_
      exact kk_rz () hx hb hr hlk dX5_isInSensorReach_31 hS (hP.sub [] rfl) (hD.sub [] (by decide) rfl) rfl (by show (0 : Int32) = f_X5_isInSensorReach x y; unfold f_X5_isInSensorReach; rw [if_neg c_3]; rw [if_pos c_6]; try rfl)
    · refine lv_iconst (v := 1) hx hb dX5_isInSensorReach_26 (by decide) ?_
      refine lv_goto (tgt := 31) hx hb dX5_isInSensorReach_27 (by decide) ?_
      exact kk_rz () hx hb hr hlk dX5_isInSensorReach_31 hS (hP.sub [] rfl) (hD.sub [] (by decide) rfl) rfl (by show (1 : Int32) = f_X5_isInSensorReach x y; unfold f_X5_isInSensorReach; rw [if_neg c_3]; rw [if_neg c_6]; try rfl)
def f_X5_isNear (v : Int32) (gl : Int32) : Int32 := (f_X5_isWithin (v - gl) (-100 : Int32) (100 : Int32))
set_option maxHeartbeats 4000000 in
set_option maxRecDepth 100000 in
theorem k_X5_isNear (l : Launch) (D : va_G) (cI cZ : ClassId)  (sz : Nat)  (v : Int32) (gl : Int32)  : kk_Mi l D cI cZ yX5_isNear wsX5_isNear ({ frames := 1, cells := 0, slots := 0, locals := 22 } : Room) [.int v, .int gl] sz [] (fun (r : Int32) (_ : Unit) => r = f_X5_isNear v gl) (fun _ => []) 0 0 := by
  refine kk_enti (cc := cX5_isNear) (maxL := 2) (ret := (some .boolean)) (by decide +kernel) rfl (Nat.le_of_ble_eq_true rfl) (fun p e s m args below meth c A ls hX hP hD hS hl => ?_)
  obtain ⟨hx, hb, hml, hown, hts, hr, hlk, hnm, hK, hA⟩ := hX
  have hown : s.vm.findClass RX5 = some m.cls := hown
  have hl : lv_has ls 2 [(0, .int v), (1, .int gl)] := hl
  refine lv_iload_n hx hb dX5_isNear_0 rfl (lv_at hl 0 rfl) ?_
  refine lv_iload_n hx hb dX5_isNear_1 rfl (lv_at hl 1 rfl) ?_
  refine lv_isub hx hb dX5_isNear_2 ?_
  refine lv_bipush (v := -100) hx hb dX5_isNear_3 (by decide) ?_
  refine lv_bipush (v := 100) hx hb dX5_isNear_5 (by decide) ?_
  refine kk_cSi (wc := []) (wr := []) ⟨hx, hb, hml, hown, hts⟩ hK hP hD hS hA [] [] (k_X5_isWithin l D cI cZ  s.heap.size (v - gl) (-100 : Int32) (100 : Int32)) (va_cwS 3 hts gX5_isNear_X5_isWithin rfl rfl rfl (by decide +kernel) ⟨(Nat.le_of_ble_eq_true rfl), (Nat.le_of_ble_eq_true rfl)⟩) rfl rfl (by decide) (by decide) (by decide) rfl hl.1 rfl (Nat.le_of_ble_eq_true rfl) dX5_isNear_7 ⟨(Nat.le_of_ble_eq_true rfl), (Nat.le_of_ble_eq_true rfl)⟩ (fun r_1 u H locs hw_2 hP hD hS => ?_)
  have hw_2 : (f_X5_isWithin (v - gl) (-100 : Int32) (100 : Int32)) = r_1 := (hw_2 : r_1 = (f_X5_isWithin (v - gl) (-100 : Int32) (100 : Int32))).symm
  subst hw_2
  have hP : va_P D vwCl [] H := hP
  have hD : va_D A [] := hD
  exact kk_rz () hx hb hr hlk dX5_isNear_10 hS (hP.sub [] rfl) (hD.sub [] (by decide) rfl) (kk_z01 (kk_w01 _ _ _)) (by show (f_X5_isWithin (v - gl) (-100 : Int32) (100 : Int32)) = f_X5_isNear v gl; unfold f_X5_isNear; rfl)
def f_X5_saturate (v : Int32) : Int32 := (if (-200 : Int32) < (if v < (200 : Int32) then v else (200 : Int32)) then (if v < (200 : Int32) then v else (200 : Int32)) else (-200 : Int32))
set_option maxHeartbeats 4000000 in
set_option maxRecDepth 100000 in
theorem k_X5_saturate (l : Launch) (D : va_G) (cI cZ : ClassId)  (sz : Nat)  (v : Int32)  : kk_Mi l D cI cZ yX5_saturate wsX5_saturate ({ frames := 1, cells := 0, slots := 0, locals := 14 } : Room) [.int v] sz [] (fun (r : Int32) (_ : Unit) => r = f_X5_saturate v) (fun _ => []) 0 0 := by
  refine kk_enti (cc := cX5_saturate) (maxL := 1) (ret := (some .int)) (by decide +kernel) rfl (Nat.le_of_ble_eq_true rfl) (fun p e s m args below meth c A ls hX hP hD hS hl => ?_)
  obtain ⟨hx, hb, hml, hown, hts, hr, hlk, hnm, hK, hA⟩ := hX
  have hown : s.vm.findClass RX5 = some m.cls := hown
  have hl : lv_has ls 1 [(0, .int v)] := hl
  refine lv_sipush (v := -200) hx hb dX5_saturate_0 (by decide) ?_
  refine lv_sipush (v := 200) hx hb dX5_saturate_3 (by decide) ?_
  refine lv_iload_n hx hb dX5_saturate_6 rfl (lv_at hl 0 rfl) ?_
  refine va_mmin hx hb (hml.trans hl.1.symm) hown (hts (.methodLink RX5 222 Lib.Math.min.name) (by decide +kernel)) (hts (.static Lib.Math.min.name) (by decide +kernel)) (hts (.initialized "java/lang/Math") (by decide +kernel)) (hts _ (List.mem_of_getElem? (i := 4) rfl)) (Nat.le_of_ble_eq_true rfl) (Nat.le_of_ble_eq_true rfl) (Nat.le_of_ble_eq_true rfl) (Nat.le_of_ble_eq_true rfl) dX5_saturate_7 ?_
  refine va_mmax hx hb (hml.trans hl.1.symm) hown (hts (.methodLink RX5 217 Lib.Math.max.name) (by decide +kernel)) (hts (.static Lib.Math.max.name) (by decide +kernel)) (hts (.initialized "java/lang/Math") (by decide +kernel)) (hts _ (List.mem_of_getElem? (i := 7) rfl)) (Nat.le_of_ble_eq_true rfl) (Nat.le_of_ble_eq_true rfl) (Nat.le_of_ble_eq_true rfl) (Nat.le_of_ble_eq_true rfl) dX5_saturate_10 ?_
  exact kk_ri () hx hb hr hlk dX5_saturate_13 hS (hP.sub [] rfl) (hD.sub [] (by decide) rfl) (by show (if (-200 : Int32) < (if v < (200 : Int32) then v else (200 : Int32)) then (if v < (200 : Int32) then v else (200 : Int32)) else (-200 : Int32)) = f_X5_saturate v; unfold f_X5_saturate; rfl)
def f_X5_corner (ce : Int32) (he : Int32) (lo : Int32) (si : Int32) (ti : Int32) (gn : Int32) (fgx : Nat → Int32) (fgy : Nat → Int32) (x : Int32) (y : Int32) : Int32 × (Nat → Int32) × (Nat → Int32) × Int32 := (if (f_X0_isFull gn) = (0 : Int32) then (if (f_X5_isOnMap x y) = (0 : Int32) then ((0 : Int32), fgx, fgy, gn) else (match (f_X0_add gn fgx fgy x y) with | (u_7, u_8, u_9) => ((1 : Int32), u_7, u_8, u_9))) else ((0 : Int32), fgx, fgy, gn))
set_option maxHeartbeats 4000000 in
set_option maxRecDepth 100000 in
theorem k_X5_corner (l : Launch) (D : va_G) (cI cZ : ClassId) (o : Nat) (ga : Nat) (ba : Nat) (ua : Nat) (ma : Nat) (sa : Nat) (la : Nat) (pa : Nat) (wa : Nat) (gqx : Nat) (gqy : Nat) (sz : Nat) (ce : Int32) (he : Int32) (lo : Int32) (si : Int32) (ti : Int32) (gn : Int32) (fgx : Nat → Int32) (fgy : Nat → Int32) (x : Int32) (y : Int32) (hgn : kk_L gn 8) : kk_Mi l D cI cZ yX5_corner wsX5_corner ({ frames := 2, cells := 0, slots := 0, locals := 43 } : Room) [.ref o, .int x, .int y] sz [(o, .inr (5, [.ref ga, .ref ba, .ref ua, .ref ma, .ref sa, .ref la, .ref pa, .ref wa, .int ce, .int he, .int lo, .int si, .int ti])), (ga, .inr (0, [.ref gqx, .ref gqy, .int gn])), (gqx, .inl (cI, 8, .inl fgx)), (gqy, .inl (cI, 8, .inl fgy))] (fun (r : Int32) (u : (Nat → Int32) × (Nat → Int32) × Int32) => (r, u) = f_X5_corner ce he lo si ti gn fgx fgy x y) (fun u => [(o, .inr (5, [.ref ga, .ref ba, .ref ua, .ref ma, .ref sa, .ref la, .ref pa, .ref wa, .int ce, .int he, .int lo, .int si, .int ti])), (ga, .inr (0, [.ref gqx, .ref gqy, .int u.2.2])), (gqx, .inl (cI, 8, .inl u.1)), (gqy, .inl (cI, 8, .inl u.2.1))]) 0 0 := by
  refine kk_enti (cc := cX5_corner) (maxL := 3) (ret := (some .boolean)) (by decide +kernel) rfl (Nat.le_of_ble_eq_true rfl) (fun p e s m args below meth c A ls hX hP hD hS hl => ?_)
  obtain ⟨hx, hb, hml, hown, hts, hr, hlk, hnm, hK, hA⟩ := hX
  have hown : s.vm.findClass RX5 = some m.cls := hown
  have hiX0 : ∀ w ∈ wsX00, w ∈ wsX5_corner := by decide +kernel
  have hiX5 : ∀ w ∈ wsX50, w ∈ wsX5_corner := by decide +kernel
  have hl : lv_has ls 3 [(0, .ref o), (1, .int x), (2, .int y)] := hl
  refine lv_aload_n hx hb dX5_corner_0 rfl (lv_at hl 0 rfl) ?_
  refine va_get (D := D) hx hb hts hiX5 hown hK.1 hP 0 rfl rfl 0 (by decide) (hts (.fieldLink RX5 10 "FencePilot" "given" "LFencePilot$Corners;") (by decide +kernel)) (fun _ h9 => h9) rfl dX5_corner_1 ?_
  refine kk_cVi (wc := [(ga, .inr (0, [.ref gqx, .ref gqy, .int gn]))]) (wr := [(o, .inr (5, [.ref ga, .ref ba, .ref ua, .ref ma, .ref sa, .ref la, .ref pa, .ref wa, .int ce, .int he, .int lo, .int si, .int ti])), (gqx, .inl (cI, 8, .inl fgx)), (gqy, .inl (cI, 8, .inl fgy))]) ⟨hx, hb, hml, hown, hts⟩ hK hP hD hS hA [1] [0, 2, 3] (k_X0_isFull l D cI cZ ga gqx gqy s.heap.size gn) (cwV 0 hts gX5_corner_X0_isFull rfl rfl rfl (by decide +kernel) ⟨(Nat.le_of_ble_eq_true rfl), (Nat.le_of_ble_eq_true rfl)⟩) rfl rfl (by decide) (by decide) (by decide) 0 0 rfl rfl rfl rfl hl.1 rfl (Nat.le_of_ble_eq_true rfl) dX5_corner_4 ⟨(Nat.le_of_ble_eq_true rfl), (Nat.le_of_ble_eq_true rfl)⟩ (fun r_1 u H locs hw_2 hP hD hS => ?_)
  have hw_2 : (f_X0_isFull gn) = r_1 := (hw_2 : r_1 = (f_X0_isFull gn)).symm
  subst hw_2
  have hP : va_P D vwCl [(o, .inr (5, [.ref ga, .ref ba, .ref ua, .ref ma, .ref sa, .ref la, .ref pa, .ref wa, .int ce, .int he, .int lo, .int si, .int ti])), (gqx, .inl (cI, 8, .inl fgx)), (gqy, .inl (cI, 8, .inl fgy)), (ga, .inr (0, [.ref gqx, .ref gqy, .int gn]))] H := hP
  have hD : va_D A [(o, .inr (5, [.ref ga, .ref ba, .ref ua, .ref ma, .ref sa, .ref la, .ref pa, .ref wa, .int ce, .int he, .int lo, .int si, .int ti])), (gqx, .inl (cI, 8, .inl fgx)), (gqy, .inl (cI, 8, .inl fgy)), (ga, .inr (0, [.ref gqx, .ref gqy, .int gn]))] := hD
  refine lv_if_ne (tgt := 18) hx hb dX5_corner_7 (by decide) (fun c_3 => ?_) (fun c_3 => ?_)
  · refine lv_iconst (v := 0) hx hb dX5_corner_18 (by decide) ?_
    exact kk_rz (fgx, fgy, gn) hx hb hr hlk dX5_corner_19 hS (hP.sub [0, 3, 1, 2] rfl) (hD.sub [0, 3, 1, 2] (by decide) rfl) rfl (by show ((0 : Int32), fgx, fgy, gn) = f_X5_corner ce he lo si ti gn fgx fgy x y; unfold f_X5_corner; rw [if_neg c_3]; try rfl)
  · refine lv_iload_n hx hb dX5_corner_10 rfl (lv_at hl 1 rfl) ?_
    refine lv_iload_n hx hb dX5_corner_11 rfl (lv_at hl 2 rfl) ?_
    refine kk_cSi (wc := []) (wr := [(o, .inr (5, [.ref ga, .ref ba, .ref ua, .ref ma, .ref sa, .ref la, .ref pa, .ref wa, .int ce, .int he, .int lo, .int si, .int ti])), (gqx, .inl (cI, 8, .inl fgx)), (gqy, .inl (cI, 8, .inl fgy)), (ga, .inr (0, [.ref gqx, .ref gqy, .int gn]))]) ⟨hx, hb, hml, hown, hts⟩ hK hP hD hS hA [] [0, 1, 2, 3] (k_X5_isOnMap l D cI cZ  H.size x y) (va_cwS 2 hts gX5_corner_X5_isOnMap rfl rfl rfl (by decide +kernel) ⟨(Nat.le_of_ble_eq_true rfl), (Nat.le_of_ble_eq_true rfl)⟩) rfl rfl (by decide) (by decide) (by decide) rfl hl.1 rfl (Nat.le_of_ble_eq_true rfl) dX5_corner_12 ⟨(Nat.le_of_ble_eq_true rfl), (Nat.le_of_ble_eq_true rfl)⟩ (fun r_4 u H locs hw_5 hP hD hS => ?_)
    have hw_5 : (f_X5_isOnMap x y) = r_4 := (hw_5 : r_4 = (f_X5_isOnMap x y)).symm
    subst hw_5
    have hP : va_P D vwCl [(o, .inr (5, [.ref ga, .ref ba, .ref ua, .ref ma, .ref sa, .ref la, .ref pa, .ref wa, .int ce, .int he, .int lo, .int si, .int ti])), (gqx, .inl (cI, 8, .inl fgx)), (gqy, .inl (cI, 8, .inl fgy)), (ga, .inr (0, [.ref gqx, .ref gqy, .int gn]))] H := hP
    have hD : va_D A [(o, .inr (5, [.ref ga, .ref ba, .ref ua, .ref ma, .ref sa, .ref la, .ref pa, .ref wa, .int ce, .int he, .int lo, .int si, .int ti])), (gqx, .inl (cI, 8, .inl fgx)), (gqy, .inl (cI, 8, .inl fgy)), (ga, .inr (0, [.ref gqx, .ref gqy, .int gn]))] := hD
    refine lv_if_ne (tgt := 20) hx hb dX5_corner_15 (by decide) (fun c_6 => ?_) (fun c_6 => ?_)
    · refine lv_aload_n hx hb dX5_corner_20 rfl (lv_at hl 0 rfl) ?_
      refine va_get (D := D) hx hb hts hiX5 hown hK.1 hP 0 rfl rfl 0 (by decide) (hts (.fieldLink RX5 10 "FencePilot" "given" "LFencePilot$Corners;") (by decide +kernel)) (fun _ h9 => h9) rfl dX5_corner_21 ?_
      refine lv_iload_n hx hb dX5_corner_24 rfl (lv_at hl 1 rfl) ?_
      refine lv_iload_n hx hb dX5_corner_25 rfl (lv_at hl 2 rfl) ?_
      refine kk_cVv (wc := [(ga, .inr (0, [.ref gqx, .ref gqy, .int gn])), (gqx, .inl (cI, 8, .inl fgx)), (gqy, .inl (cI, 8, .inl fgy))]) (wr := [(o, .inr (5, [.ref ga, .ref ba, .ref ua, .ref ma, .ref sa, .ref la, .ref pa, .ref wa, .int ce, .int he, .int lo, .int si, .int ti]))]) ⟨hx, hb, hml, hown, hts⟩ hK hP hD hS hA [3, 1, 2] [0] (k_X0_add l D cI cZ ga gqx gqy H.size gn fgx fgy x y (by assumption)) (cwV 2 hts gX5_corner_X0_add rfl rfl rfl (by decide +kernel) ⟨(Nat.le_of_ble_eq_true rfl), (Nat.le_of_ble_eq_true rfl)⟩) rfl rfl (by decide) (by decide) (by decide) 0 0 rfl rfl rfl rfl hl.1 rfl (Nat.le_of_ble_eq_true rfl) dX5_corner_26 ⟨(Nat.le_of_ble_eq_true rfl), (Nat.le_of_ble_eq_true rfl)⟩ (fun u H locs hw_11 hP hD hS => ?_)
      obtain ⟨u_7, u_8, u_9⟩ := u
      have hw_11 : (u_7, u_8, u_9) = (f_X0_add gn fgx fgy x y) := hw_11
      have hP : va_P D vwCl [(o, .inr (5, [.ref ga, .ref ba, .ref ua, .ref ma, .ref sa, .ref la, .ref pa, .ref wa, .int ce, .int he, .int lo, .int si, .int ti])), (ga, .inr (0, [.ref gqx, .ref gqy, .int u_9])), (gqx, .inl (cI, 8, .inl u_7)), (gqy, .inl (cI, 8, .inl u_8))] H := hP
      have hD : va_D A [(o, .inr (5, [.ref ga, .ref ba, .ref ua, .ref ma, .ref sa, .ref la, .ref pa, .ref wa, .int ce, .int he, .int lo, .int si, .int ti])), (ga, .inr (0, [.ref gqx, .ref gqy, .int u_9])), (gqx, .inl (cI, 8, .inl u_7)), (gqy, .inl (cI, 8, .inl u_8))] := hD
      refine lv_iconst (v := 1) hx hb dX5_corner_29 (by decide) ?_
      exact kk_rz (u_7, u_8, u_9) hx hb hr hlk dX5_corner_30 hS (hP.sub [0, 1, 2, 3] rfl) (hD.sub [0, 1, 2, 3] (by decide) rfl) rfl (by show ((1 : Int32), u_7, u_8, u_9) = f_X5_corner ce he lo si ti gn fgx fgy x y; unfold f_X5_corner; rw [if_pos c_3]; rw [if_neg c_6]; rw [← hw_11]; try dsimp only; try rfl)
    · refine lv_iconst (v := 0) hx hb dX5_corner_18 (by decide) ?_
      exact kk_rz (fgx, fgy, gn) hx hb hr hlk dX5_corner_19 hS (hP.sub [0, 3, 1, 2] rfl) (hD.sub [0, 3, 1, 2] (by decide) rfl) rfl (by show ((0 : Int32), fgx, fgy, gn) = f_X5_corner ce he lo si ti gn fgx fgy x y; unfold f_X5_corner; rw [if_pos c_3]; rw [if_pos c_6]; try rfl)
def f_X5_erase (ce : Int32) (he : Int32) (lo : Int32) (si : Int32) (ti : Int32) (gn : Int32) : Int32 := (f_X0_clear gn)
set_option maxHeartbeats 4000000 in
set_option maxRecDepth 100000 in
theorem k_X5_erase (l : Launch) (D : va_G) (cI cZ : ClassId) (o : Nat) (ga : Nat) (ba : Nat) (ua : Nat) (ma : Nat) (sa : Nat) (la : Nat) (pa : Nat) (wa : Nat) (gqx : Nat) (gqy : Nat) (sz : Nat) (ce : Int32) (he : Int32) (lo : Int32) (si : Int32) (ti : Int32) (gn : Int32)   : kk_Mv l D cI cZ yX5_erase wsX5_erase ({ frames := 1, cells := 0, slots := 0, locals := 20 } : Room) [.ref o] sz [(o, .inr (5, [.ref ga, .ref ba, .ref ua, .ref ma, .ref sa, .ref la, .ref pa, .ref wa, .int ce, .int he, .int lo, .int si, .int ti])), (ga, .inr (0, [.ref gqx, .ref gqy, .int gn]))] (fun (u : Int32) => u = f_X5_erase ce he lo si ti gn) (fun u => [(o, .inr (5, [.ref ga, .ref ba, .ref ua, .ref ma, .ref sa, .ref la, .ref pa, .ref wa, .int ce, .int he, .int lo, .int si, .int ti])), (ga, .inr (0, [.ref gqx, .ref gqy, .int u]))]) 0 0 := by
  refine kk_entv (cc := cX5_erase) (maxL := 1) (ret := none) (by decide +kernel) rfl (Nat.le_of_ble_eq_true rfl) (fun p e s m args below meth c A ls hX hP hD hS hl => ?_)
  obtain ⟨hx, hb, hml, hown, hts, hr, hlk, hnm, hK, hA⟩ := hX
  have hown : s.vm.findClass RX5 = some m.cls := hown
  have hiX0 : ∀ w ∈ wsX00, w ∈ wsX5_erase := by decide +kernel
  have hiX5 : ∀ w ∈ wsX50, w ∈ wsX5_erase := by decide +kernel
  have hl : lv_has ls 1 [(0, .ref o)] := hl
  refine lv_aload_n hx hb dX5_erase_0 rfl (lv_at hl 0 rfl) ?_
  refine va_get (D := D) hx hb hts hiX5 hown hK.1 hP 0 rfl rfl 0 (by decide) (hts (.fieldLink RX5 10 "FencePilot" "given" "LFencePilot$Corners;") (by decide +kernel)) (fun _ h9 => h9) rfl dX5_erase_1 ?_
  refine kk_cVv (wc := [(ga, .inr (0, [.ref gqx, .ref gqy, .int gn]))]) (wr := [(o, .inr (5, [.ref ga, .ref ba, .ref ua, .ref ma, .ref sa, .ref la, .ref pa, .ref wa, .int ce, .int he, .int lo, .int si, .int ti]))]) ⟨hx, hb, hml, hown, hts⟩ hK hP hD hS hA [1] [0] (k_X0_clear l D cI cZ ga gqx gqy s.heap.size gn) (cwV 0 hts gX5_erase_X0_clear rfl rfl rfl (by decide +kernel) ⟨(Nat.le_of_ble_eq_true rfl), (Nat.le_of_ble_eq_true rfl)⟩) rfl rfl (by decide) (by decide) (by decide) 0 0 rfl rfl rfl rfl hl.1 rfl (Nat.le_of_ble_eq_true rfl) dX5_erase_4 ⟨(Nat.le_of_ble_eq_true rfl), (Nat.le_of_ble_eq_true rfl)⟩ (fun u_1 H locs hw_3 hP hD hS => ?_)
  have hw_3 : (f_X0_clear gn) = u_1 := (hw_3 : u_1 = (f_X0_clear gn)).symm
  subst hw_3
  have hP : va_P D vwCl [(o, .inr (5, [.ref ga, .ref ba, .ref ua, .ref ma, .ref sa, .ref la, .ref pa, .ref wa, .int ce, .int he, .int lo, .int si, .int ti])), (ga, .inr (0, [.ref gqx, .ref gqy, .int (f_X0_clear gn)]))] H := hP
  have hD : va_D A [(o, .inr (5, [.ref ga, .ref ba, .ref ua, .ref ma, .ref sa, .ref la, .ref pa, .ref wa, .int ce, .int he, .int lo, .int si, .int ti])), (ga, .inr (0, [.ref gqx, .ref gqy, .int (f_X0_clear gn)]))] := hD
  exact kk_rv (f_X0_clear gn) hx hb hr hlk dX5_erase_7 hS (hP.sub [0, 1] rfl) (hD.sub [0, 1] (by decide) rfl) (by show (f_X0_clear gn) = f_X5_erase ce he lo si ti gn; unfold f_X5_erase; rfl)
def f_X5_fence (ce : Int32) (he : Int32) (lo : Int32) (si : Int32) (ti : Int32) (gn : Int32) (fgx : Nat → Int32) (fgy : Nat → Int32) (bn : Int32) (fbx : Nat → Int32) (fby : Nat → Int32) (lm : Int32) (lf : Int32) (cl : Int32) : Int32 × (Nat → Int32) × (Nat → Int32) × Int32 × Int32 × Int32 := (if lm = (0 : Int32) then (if (f_X0_areEnough gn) = (0 : Int32) then ((-2 : Int32), fbx, fby, bn, ce, gn) else (if (f_X0_areConvex gn fgx fgy) = (0 : Int32) then ((-3 : Int32), fbx, fby, bn, ce, gn) else (if (f_X0_leaveClear gn fgx fgy (0 : Int32) (0 : Int32) (1000 : Int32)) = (0 : Int32) then ((-4 : Int32), fbx, fby, bn, ce, gn) else (if (f_X5_isWithin cl (1500 : Int32) (10000 : Int32)) = (0 : Int32) then ((-5 : Int32), fbx, fby, bn, ce, gn) else (match (f_X0_copyFrom bn fbx fby gn fgx fgy) with | (u_14, u_15, u_16) => ((0 : Int32), u_14, u_15, u_16, cl, (f_X0_clear gn))))))) else ((-1 : Int32), fbx, fby, bn, ce, gn))
set_option maxHeartbeats 4000000 in
set_option maxRecDepth 100000 in
theorem k_X5_fence (l : Launch) (D : va_G) (cI cZ : ClassId) (o : Nat) (ga : Nat) (ba : Nat) (ua : Nat) (ma : Nat) (sa : Nat) (la : Nat) (pa : Nat) (wa : Nat) (gqx : Nat) (gqy : Nat) (bqx : Nat) (bqy : Nat) (lc : Nat) (sz : Nat) (ce : Int32) (he : Int32) (lo : Int32) (si : Int32) (ti : Int32) (gn : Int32) (fgx : Nat → Int32) (fgy : Nat → Int32) (bn : Int32) (fbx : Nat → Int32) (fby : Nat → Int32) (lm : Int32) (lf : Int32) (cl : Int32) (hgn : kk_L gn 8) : kk_Mi l D cI cZ yX5_fence wsX5_fence ({ frames := 4, cells := 0, slots := 0, locals := 99 } : Room) [.ref o, .int cl] sz [(o, .inr (5, [.ref ga, .ref ba, .ref ua, .ref ma, .ref sa, .ref la, .ref pa, .ref wa, .int ce, .int he, .int lo, .int si, .int ti])), (ga, .inr (0, [.ref gqx, .ref gqy, .int gn])), (gqx, .inl (cI, 8, .inl fgx)), (gqy, .inl (cI, 8, .inl fgy)), (ba, .inr (0, [.ref bqx, .ref bqy, .int bn])), (bqx, .inl (cI, 8, .inl fbx)), (bqy, .inl (cI, 8, .inl fby)), (la, .inr (2, [.ref lc, .int lm, .int lf]))] (fun (r : Int32) (u : (Nat → Int32) × (Nat → Int32) × Int32 × Int32 × Int32) => (r, u) = f_X5_fence ce he lo si ti gn fgx fgy bn fbx fby lm lf cl) (fun u => [(o, .inr (5, [.ref ga, .ref ba, .ref ua, .ref ma, .ref sa, .ref la, .ref pa, .ref wa, .int u.2.2.2.1, .int he, .int lo, .int si, .int ti])), (ga, .inr (0, [.ref gqx, .ref gqy, .int u.2.2.2.2])), (gqx, .inl (cI, 8, .inl fgx)), (gqy, .inl (cI, 8, .inl fgy)), (ba, .inr (0, [.ref bqx, .ref bqy, .int u.2.2.1])), (bqx, .inl (cI, 8, .inl u.1)), (bqy, .inl (cI, 8, .inl u.2.1)), (la, .inr (2, [.ref lc, .int lm, .int lf]))]) 0 0 := by
  refine kk_enti (cc := cX5_fence) (maxL := 2) (ret := (some .int)) (by decide +kernel) rfl (Nat.le_of_ble_eq_true rfl) (fun p e s m args below meth c A ls hX hP hD hS hl => ?_)
  obtain ⟨hx, hb, hml, hown, hts, hr, hlk, hnm, hK, hA⟩ := hX
  have hown : s.vm.findClass RX5 = some m.cls := hown
  have hiX0 : ∀ w ∈ wsX00, w ∈ wsX5_fence := by decide +kernel
  have hiX2 : ∀ w ∈ wsX20, w ∈ wsX5_fence := by decide +kernel
  have hiX5 : ∀ w ∈ wsX50, w ∈ wsX5_fence := by decide +kernel
  have hl : lv_has ls 2 [(0, .ref o), (1, .int cl)] := hl
  refine lv_aload_n hx hb dX5_fence_0 rfl (lv_at hl 0 rfl) ?_
  refine va_get (D := D) hx hb hts hiX5 hown hK.1 hP 0 rfl rfl 5 (by decide) (hts (.fieldLink RX5 43 "FencePilot" "modes" "LFencePilot$ModeLog;") (by decide +kernel)) (fun _ h9 => h9) rfl dX5_fence_1 ?_
  refine va_getN (D := D) hx hb hts hiX2 hown hK.1 hP 7 rfl rfl 1 (by decide) (va_Nw.use rfl hK.2.2.2.2.2.2.1) (fun _ h9 => h9) rfl dX5_fence_4 ?_
  refine lv_if_eq (tgt := 12) hx hb dX5_fence_7 (by decide) (fun c_1 => ?_) (fun c_1 => ?_)
  · refine lv_aload_n hx hb dX5_fence_12 rfl (lv_at hl 0 rfl) ?_
    refine va_get (D := D) hx hb hts hiX5 hown hK.1 hP 0 rfl rfl 0 (by decide) (hts (.fieldLink RX5 10 "FencePilot" "given" "LFencePilot$Corners;") (by decide +kernel)) (fun _ h9 => h9) rfl dX5_fence_13 ?_
    refine kk_cVi (wc := [(ga, .inr (0, [.ref gqx, .ref gqy, .int gn]))]) (wr := [(o, .inr (5, [.ref ga, .ref ba, .ref ua, .ref ma, .ref sa, .ref la, .ref pa, .ref wa, .int ce, .int he, .int lo, .int si, .int ti])), (gqx, .inl (cI, 8, .inl fgx)), (gqy, .inl (cI, 8, .inl fgy)), (ba, .inr (0, [.ref bqx, .ref bqy, .int bn])), (bqx, .inl (cI, 8, .inl fbx)), (bqy, .inl (cI, 8, .inl fby)), (la, .inr (2, [.ref lc, .int lm, .int lf]))]) ⟨hx, hb, hml, hown, hts⟩ hK hP hD hS hA [1] [0, 2, 3, 4, 5, 6, 7] (k_X0_areEnough l D cI cZ ga gqx gqy s.heap.size gn) (cwV 0 hts gX5_fence_X0_areEnough rfl rfl rfl (by decide +kernel) ⟨(Nat.le_of_ble_eq_true rfl), (Nat.le_of_ble_eq_true rfl)⟩) rfl rfl (by decide) (by decide) (by decide) 0 0 rfl rfl rfl rfl hl.1 rfl (Nat.le_of_ble_eq_true rfl) dX5_fence_16 ⟨(Nat.le_of_ble_eq_true rfl), (Nat.le_of_ble_eq_true rfl)⟩ (fun r_2 u H locs hw_3 hP hD hS => ?_)
    have hw_3 : (f_X0_areEnough gn) = r_2 := (hw_3 : r_2 = (f_X0_areEnough gn)).symm
    subst hw_3
    have hP : va_P D vwCl [(o, .inr (5, [.ref ga, .ref ba, .ref ua, .ref ma, .ref sa, .ref la, .ref pa, .ref wa, .int ce, .int he, .int lo, .int si, .int ti])), (gqx, .inl (cI, 8, .inl fgx)), (gqy, .inl (cI, 8, .inl fgy)), (ba, .inr (0, [.ref bqx, .ref bqy, .int bn])), (bqx, .inl (cI, 8, .inl fbx)), (bqy, .inl (cI, 8, .inl fby)), (la, .inr (2, [.ref lc, .int lm, .int lf])), (ga, .inr (0, [.ref gqx, .ref gqy, .int gn]))] H := hP
    have hD : va_D A [(o, .inr (5, [.ref ga, .ref ba, .ref ua, .ref ma, .ref sa, .ref la, .ref pa, .ref wa, .int ce, .int he, .int lo, .int si, .int ti])), (gqx, .inl (cI, 8, .inl fgx)), (gqy, .inl (cI, 8, .inl fgy)), (ba, .inr (0, [.ref bqx, .ref bqy, .int bn])), (bqx, .inl (cI, 8, .inl fbx)), (bqy, .inl (cI, 8, .inl fby)), (la, .inr (2, [.ref lc, .int lm, .int lf])), (ga, .inr (0, [.ref gqx, .ref gqy, .int gn]))] := hD
    refine lv_if_ne (tgt := 25) hx hb dX5_fence_19 (by decide) (fun c_4 => ?_) (fun c_4 => ?_)
    · refine lv_aload_n hx hb dX5_fence_25 rfl (lv_at hl 0 rfl) ?_
      refine va_get (D := D) hx hb hts hiX5 hown hK.1 hP 0 rfl rfl 0 (by decide) (hts (.fieldLink RX5 10 "FencePilot" "given" "LFencePilot$Corners;") (by decide +kernel)) (fun _ h9 => h9) rfl dX5_fence_26 ?_
      refine kk_cVi (wc := [(ga, .inr (0, [.ref gqx, .ref gqy, .int gn])), (gqx, .inl (cI, 8, .inl fgx)), (gqy, .inl (cI, 8, .inl fgy))]) (wr := [(o, .inr (5, [.ref ga, .ref ba, .ref ua, .ref ma, .ref sa, .ref la, .ref pa, .ref wa, .int ce, .int he, .int lo, .int si, .int ti])), (ba, .inr (0, [.ref bqx, .ref bqy, .int bn])), (bqx, .inl (cI, 8, .inl fbx)), (bqy, .inl (cI, 8, .inl fby)), (la, .inr (2, [.ref lc, .int lm, .int lf]))]) ⟨hx, hb, hml, hown, hts⟩ hK hP hD hS hA [7, 1, 2] [0, 3, 4, 5, 6] (k_X0_areConvex l D cI cZ ga gqx gqy H.size gn fgx fgy (by assumption)) (cwV 0 hts gX5_fence_X0_areConvex rfl rfl rfl (by decide +kernel) ⟨(Nat.le_of_ble_eq_true rfl), (Nat.le_of_ble_eq_true rfl)⟩) rfl rfl (by decide) (by decide) (by decide) 0 0 rfl rfl rfl rfl hl.1 rfl (Nat.le_of_ble_eq_true rfl) dX5_fence_29 ⟨(Nat.le_of_ble_eq_true rfl), (Nat.le_of_ble_eq_true rfl)⟩ (fun r_5 u H locs hw_6 hP hD hS => ?_)
      have hw_6 : (f_X0_areConvex gn fgx fgy) = r_5 := (hw_6 : r_5 = (f_X0_areConvex gn fgx fgy)).symm
      subst hw_6
      have hP : va_P D vwCl [(o, .inr (5, [.ref ga, .ref ba, .ref ua, .ref ma, .ref sa, .ref la, .ref pa, .ref wa, .int ce, .int he, .int lo, .int si, .int ti])), (ba, .inr (0, [.ref bqx, .ref bqy, .int bn])), (bqx, .inl (cI, 8, .inl fbx)), (bqy, .inl (cI, 8, .inl fby)), (la, .inr (2, [.ref lc, .int lm, .int lf])), (ga, .inr (0, [.ref gqx, .ref gqy, .int gn])), (gqx, .inl (cI, 8, .inl fgx)), (gqy, .inl (cI, 8, .inl fgy))] H := hP
      have hD : va_D A [(o, .inr (5, [.ref ga, .ref ba, .ref ua, .ref ma, .ref sa, .ref la, .ref pa, .ref wa, .int ce, .int he, .int lo, .int si, .int ti])), (ba, .inr (0, [.ref bqx, .ref bqy, .int bn])), (bqx, .inl (cI, 8, .inl fbx)), (bqy, .inl (cI, 8, .inl fby)), (la, .inr (2, [.ref lc, .int lm, .int lf])), (ga, .inr (0, [.ref gqx, .ref gqy, .int gn])), (gqx, .inl (cI, 8, .inl fgx)), (gqy, .inl (cI, 8, .inl fgy))] := hD
      refine lv_if_ne (tgt := 38) hx hb dX5_fence_32 (by decide) (fun c_7 => ?_) (fun c_7 => ?_)
      · refine lv_aload_n hx hb dX5_fence_38 rfl (lv_at hl 0 rfl) ?_
        refine va_get (D := D) hx hb hts hiX5 hown hK.1 hP 0 rfl rfl 0 (by decide) (hts (.fieldLink RX5 10 "FencePilot" "given" "LFencePilot$Corners;") (by decide +kernel)) (fun _ h9 => h9) rfl dX5_fence_39 ?_
        refine lv_iconst (v := 0) hx hb dX5_fence_42 (by decide) ?_
        refine lv_iconst (v := 0) hx hb dX5_fence_43 (by decide) ?_
        refine lv_sipush (v := 1000) hx hb dX5_fence_44 (by decide) ?_
        refine kk_cVi (wc := [(ga, .inr (0, [.ref gqx, .ref gqy, .int gn])), (gqx, .inl (cI, 8, .inl fgx)), (gqy, .inl (cI, 8, .inl fgy))]) (wr := [(o, .inr (5, [.ref ga, .ref ba, .ref ua, .ref ma, .ref sa, .ref la, .ref pa, .ref wa, .int ce, .int he, .int lo, .int si, .int ti])), (ba, .inr (0, [.ref bqx, .ref bqy, .int bn])), (bqx, .inl (cI, 8, .inl fbx)), (bqy, .inl (cI, 8, .inl fby)), (la, .inr (2, [.ref lc, .int lm, .int lf]))]) ⟨hx, hb, hml, hown, hts⟩ hK hP hD hS hA [5, 6, 7] [0, 1, 2, 3, 4] (k_X0_leaveClear l D cI cZ ga gqx gqy H.size gn fgx fgy (0 : Int32) (0 : Int32) (1000 : Int32) (by assumption)) (cwV 3 hts gX5_fence_X0_leaveClear rfl rfl rfl (by decide +kernel) ⟨(Nat.le_of_ble_eq_true rfl), (Nat.le_of_ble_eq_true rfl)⟩) rfl rfl (by decide) (by decide) (by decide) 0 0 rfl rfl rfl rfl hl.1 rfl (Nat.le_of_ble_eq_true rfl) dX5_fence_47 ⟨(Nat.le_of_ble_eq_true rfl), (Nat.le_of_ble_eq_true rfl)⟩ (fun r_8 u H locs hw_9 hP hD hS => ?_)
        have hw_9 : (f_X0_leaveClear gn fgx fgy (0 : Int32) (0 : Int32) (1000 : Int32)) = r_8 := (hw_9 : r_8 = (f_X0_leaveClear gn fgx fgy (0 : Int32) (0 : Int32) (1000 : Int32))).symm
        subst hw_9
        have hP : va_P D vwCl [(o, .inr (5, [.ref ga, .ref ba, .ref ua, .ref ma, .ref sa, .ref la, .ref pa, .ref wa, .int ce, .int he, .int lo, .int si, .int ti])), (ba, .inr (0, [.ref bqx, .ref bqy, .int bn])), (bqx, .inl (cI, 8, .inl fbx)), (bqy, .inl (cI, 8, .inl fby)), (la, .inr (2, [.ref lc, .int lm, .int lf])), (ga, .inr (0, [.ref gqx, .ref gqy, .int gn])), (gqx, .inl (cI, 8, .inl fgx)), (gqy, .inl (cI, 8, .inl fgy))] H := hP
        have hD : va_D A [(o, .inr (5, [.ref ga, .ref ba, .ref ua, .ref ma, .ref sa, .ref la, .ref pa, .ref wa, .int ce, .int he, .int lo, .int si, .int ti])), (ba, .inr (0, [.ref bqx, .ref bqy, .int bn])), (bqx, .inl (cI, 8, .inl fbx)), (bqy, .inl (cI, 8, .inl fby)), (la, .inr (2, [.ref lc, .int lm, .int lf])), (ga, .inr (0, [.ref gqx, .ref gqy, .int gn])), (gqx, .inl (cI, 8, .inl fgx)), (gqy, .inl (cI, 8, .inl fgy))] := hD
        refine lv_if_ne (tgt := 56) hx hb dX5_fence_50 (by decide) (fun c_10 => ?_) (fun c_10 => ?_)
        · refine lv_iload_n hx hb dX5_fence_56 rfl (lv_at hl 1 rfl) ?_
          refine lv_sipush (v := 1500) hx hb dX5_fence_57 (by decide) ?_
          refine lv_sipush (v := 10000) hx hb dX5_fence_60 (by decide) ?_
          refine kk_cSi (wc := []) (wr := [(o, .inr (5, [.ref ga, .ref ba, .ref ua, .ref ma, .ref sa, .ref la, .ref pa, .ref wa, .int ce, .int he, .int lo, .int si, .int ti])), (ba, .inr (0, [.ref bqx, .ref bqy, .int bn])), (bqx, .inl (cI, 8, .inl fbx)), (bqy, .inl (cI, 8, .inl fby)), (la, .inr (2, [.ref lc, .int lm, .int lf])), (ga, .inr (0, [.ref gqx, .ref gqy, .int gn])), (gqx, .inl (cI, 8, .inl fgx)), (gqy, .inl (cI, 8, .inl fgy))]) ⟨hx, hb, hml, hown, hts⟩ hK hP hD hS hA [] [0, 1, 2, 3, 4, 5, 6, 7] (k_X5_isWithin l D cI cZ  H.size cl (1500 : Int32) (10000 : Int32)) (va_cwS 3 hts gX5_fence_X5_isWithin rfl rfl rfl (by decide +kernel) ⟨(Nat.le_of_ble_eq_true rfl), (Nat.le_of_ble_eq_true rfl)⟩) rfl rfl (by decide) (by decide) (by decide) rfl hl.1 rfl (Nat.le_of_ble_eq_true rfl) dX5_fence_63 ⟨(Nat.le_of_ble_eq_true rfl), (Nat.le_of_ble_eq_true rfl)⟩ (fun r_11 u H locs hw_12 hP hD hS => ?_)
          have hw_12 : (f_X5_isWithin cl (1500 : Int32) (10000 : Int32)) = r_11 := (hw_12 : r_11 = (f_X5_isWithin cl (1500 : Int32) (10000 : Int32))).symm
          subst hw_12
          have hP : va_P D vwCl [(o, .inr (5, [.ref ga, .ref ba, .ref ua, .ref ma, .ref sa, .ref la, .ref pa, .ref wa, .int ce, .int he, .int lo, .int si, .int ti])), (ba, .inr (0, [.ref bqx, .ref bqy, .int bn])), (bqx, .inl (cI, 8, .inl fbx)), (bqy, .inl (cI, 8, .inl fby)), (la, .inr (2, [.ref lc, .int lm, .int lf])), (ga, .inr (0, [.ref gqx, .ref gqy, .int gn])), (gqx, .inl (cI, 8, .inl fgx)), (gqy, .inl (cI, 8, .inl fgy))] H := hP
          have hD : va_D A [(o, .inr (5, [.ref ga, .ref ba, .ref ua, .ref ma, .ref sa, .ref la, .ref pa, .ref wa, .int ce, .int he, .int lo, .int si, .int ti])), (ba, .inr (0, [.ref bqx, .ref bqy, .int bn])), (bqx, .inl (cI, 8, .inl fbx)), (bqy, .inl (cI, 8, .inl fby)), (la, .inr (2, [.ref lc, .int lm, .int lf])), (ga, .inr (0, [.ref gqx, .ref gqy, .int gn])), (gqx, .inl (cI, 8, .inl fgx)), (gqy, .inl (cI, 8, .inl fgy))] := hD
          refine lv_if_ne (tgt := 72) hx hb dX5_fence_66 (by decide) (fun c_13 => ?_) (fun c_13 => ?_)
          · refine lv_aload_n hx hb dX5_fence_72 rfl (lv_at hl 0 rfl) ?_
            refine va_get (D := D) hx hb hts hiX5 hown hK.1 hP 0 rfl rfl 1 (by decide) (hts (.fieldLink RX5 16 "FencePilot" "bounds" "LFencePilot$Corners;") (by decide +kernel)) (fun _ h9 => h9) rfl dX5_fence_73 ?_
            refine lv_aload_n hx hb dX5_fence_76 rfl (lv_at hl 0 rfl) ?_
            refine va_get (D := D) hx hb hts hiX5 hown hK.1 hP 0 rfl rfl 0 (by decide) (hts (.fieldLink RX5 10 "FencePilot" "given" "LFencePilot$Corners;") (by decide +kernel)) (fun _ h9 => h9) rfl dX5_fence_77 ?_
            refine kk_cVv (wc := [(ba, .inr (0, [.ref bqx, .ref bqy, .int bn])), (bqx, .inl (cI, 8, .inl fbx)), (bqy, .inl (cI, 8, .inl fby)), (ga, .inr (0, [.ref gqx, .ref gqy, .int gn])), (gqx, .inl (cI, 8, .inl fgx)), (gqy, .inl (cI, 8, .inl fgy))]) (wr := [(o, .inr (5, [.ref ga, .ref ba, .ref ua, .ref ma, .ref sa, .ref la, .ref pa, .ref wa, .int ce, .int he, .int lo, .int si, .int ti])), (la, .inr (2, [.ref lc, .int lm, .int lf]))]) ⟨hx, hb, hml, hown, hts⟩ hK hP hD hS hA [1, 2, 3, 5, 6, 7] [0, 4] (k_X0_copyFrom l D cI cZ ba bqx bqy ga gqx gqy H.size bn fbx fby gn fgx fgy (by assumption)) (cwV 1 hts gX5_fence_X0_copyFrom rfl rfl rfl (by decide +kernel) ⟨(Nat.le_of_ble_eq_true rfl), (Nat.le_of_ble_eq_true rfl)⟩) rfl rfl (by decide) (by decide) (by decide) 0 0 rfl rfl rfl rfl hl.1 rfl (Nat.le_of_ble_eq_true rfl) dX5_fence_80 ⟨(Nat.le_of_ble_eq_true rfl), (Nat.le_of_ble_eq_true rfl)⟩ (fun u H locs hw_18 hP hD hS => ?_)
            obtain ⟨u_14, u_15, u_16⟩ := u
            have hw_18 : (u_14, u_15, u_16) = (f_X0_copyFrom bn fbx fby gn fgx fgy) := hw_18
            have hP : va_P D vwCl [(o, .inr (5, [.ref ga, .ref ba, .ref ua, .ref ma, .ref sa, .ref la, .ref pa, .ref wa, .int ce, .int he, .int lo, .int si, .int ti])), (la, .inr (2, [.ref lc, .int lm, .int lf])), (ba, .inr (0, [.ref bqx, .ref bqy, .int u_16])), (bqx, .inl (cI, 8, .inl u_14)), (bqy, .inl (cI, 8, .inl u_15)), (ga, .inr (0, [.ref gqx, .ref gqy, .int gn])), (gqx, .inl (cI, 8, .inl fgx)), (gqy, .inl (cI, 8, .inl fgy))] H := hP
            have hD : va_D A [(o, .inr (5, [.ref ga, .ref ba, .ref ua, .ref ma, .ref sa, .ref la, .ref pa, .ref wa, .int ce, .int he, .int lo, .int si, .int ti])), (la, .inr (2, [.ref lc, .int lm, .int lf])), (ba, .inr (0, [.ref bqx, .ref bqy, .int u_16])), (bqx, .inl (cI, 8, .inl u_14)), (bqy, .inl (cI, 8, .inl u_15)), (ga, .inr (0, [.ref gqx, .ref gqy, .int gn])), (gqx, .inl (cI, 8, .inl fgx)), (gqy, .inl (cI, 8, .inl fgy))] := hD
            refine lv_aload_n hx hb dX5_fence_83 rfl (lv_at hl 0 rfl) ?_
            refine lv_iload_n hx hb dX5_fence_84 rfl (lv_at hl 1 rfl) ?_
            refine va_put (D := D) (ci := 5) (v := .int cl) (ty := .int) (C := RX5) (T := TX5) (N := 13) hx hb hts hiX5 tyX5 tyX5_ok nmX5 hown hK.1 hP hD hS 0 rfl rfl 8 (by decide) (hts (.fieldLink RX5 54 "FencePilot" "ceiling" "I") (by decide +kernel)) (fun _ h9 => h9) rfl (by decide +kernel) rfl rfl (Nat.le_of_ble_eq_true rfl) dX5_fence_85 (fun H locs hP hD hS => ?_)
            have hP : va_P D vwCl [(o, .inr (5, [.ref ga, .ref ba, .ref ua, .ref ma, .ref sa, .ref la, .ref pa, .ref wa, .int cl, .int he, .int lo, .int si, .int ti])), (la, .inr (2, [.ref lc, .int lm, .int lf])), (ba, .inr (0, [.ref bqx, .ref bqy, .int u_16])), (bqx, .inl (cI, 8, .inl u_14)), (bqy, .inl (cI, 8, .inl u_15)), (ga, .inr (0, [.ref gqx, .ref gqy, .int gn])), (gqx, .inl (cI, 8, .inl fgx)), (gqy, .inl (cI, 8, .inl fgy))] H := hP
            have hD : va_D A [(o, .inr (5, [.ref ga, .ref ba, .ref ua, .ref ma, .ref sa, .ref la, .ref pa, .ref wa, .int cl, .int he, .int lo, .int si, .int ti])), (la, .inr (2, [.ref lc, .int lm, .int lf])), (ba, .inr (0, [.ref bqx, .ref bqy, .int u_16])), (bqx, .inl (cI, 8, .inl u_14)), (bqy, .inl (cI, 8, .inl u_15)), (ga, .inr (0, [.ref gqx, .ref gqy, .int gn])), (gqx, .inl (cI, 8, .inl fgx)), (gqy, .inl (cI, 8, .inl fgy))] := hD
            refine lv_aload_n hx hb dX5_fence_88 rfl (lv_at hl 0 rfl) ?_
            refine va_get (D := D) hx hb hts hiX5 hown hK.1 hP 0 rfl rfl 0 (by decide) (hts (.fieldLink RX5 10 "FencePilot" "given" "LFencePilot$Corners;") (by decide +kernel)) (fun _ h9 => h9) rfl dX5_fence_89 ?_
            refine kk_cVv (wc := [(ga, .inr (0, [.ref gqx, .ref gqy, .int gn]))]) (wr := [(o, .inr (5, [.ref ga, .ref ba, .ref ua, .ref ma, .ref sa, .ref la, .ref pa, .ref wa, .int cl, .int he, .int lo, .int si, .int ti])), (la, .inr (2, [.ref lc, .int lm, .int lf])), (ba, .inr (0, [.ref bqx, .ref bqy, .int u_16])), (bqx, .inl (cI, 8, .inl u_14)), (bqy, .inl (cI, 8, .inl u_15)), (gqx, .inl (cI, 8, .inl fgx)), (gqy, .inl (cI, 8, .inl fgy))]) ⟨hx, hb, hml, hown, hts⟩ hK hP hD hS hA [5] [0, 1, 2, 3, 4, 6, 7] (k_X0_clear l D cI cZ ga gqx gqy H.size gn) (cwV 0 hts gX5_fence_X0_clear rfl rfl rfl (by decide +kernel) ⟨(Nat.le_of_ble_eq_true rfl), (Nat.le_of_ble_eq_true rfl)⟩) rfl rfl (by decide) (by decide) (by decide) 0 0 rfl rfl rfl rfl hl.1 rfl (Nat.le_of_ble_eq_true rfl) dX5_fence_92 ⟨(Nat.le_of_ble_eq_true rfl), (Nat.le_of_ble_eq_true rfl)⟩ (fun u_19 H locs hw_21 hP hD hS => ?_)
            have hw_21 : (f_X0_clear gn) = u_19 := (hw_21 : u_19 = (f_X0_clear gn)).symm
            subst hw_21
            have hP : va_P D vwCl [(o, .inr (5, [.ref ga, .ref ba, .ref ua, .ref ma, .ref sa, .ref la, .ref pa, .ref wa, .int cl, .int he, .int lo, .int si, .int ti])), (la, .inr (2, [.ref lc, .int lm, .int lf])), (ba, .inr (0, [.ref bqx, .ref bqy, .int u_16])), (bqx, .inl (cI, 8, .inl u_14)), (bqy, .inl (cI, 8, .inl u_15)), (gqx, .inl (cI, 8, .inl fgx)), (gqy, .inl (cI, 8, .inl fgy)), (ga, .inr (0, [.ref gqx, .ref gqy, .int (f_X0_clear gn)]))] H := hP
            have hD : va_D A [(o, .inr (5, [.ref ga, .ref ba, .ref ua, .ref ma, .ref sa, .ref la, .ref pa, .ref wa, .int cl, .int he, .int lo, .int si, .int ti])), (la, .inr (2, [.ref lc, .int lm, .int lf])), (ba, .inr (0, [.ref bqx, .ref bqy, .int u_16])), (bqx, .inl (cI, 8, .inl u_14)), (bqy, .inl (cI, 8, .inl u_15)), (gqx, .inl (cI, 8, .inl fgx)), (gqy, .inl (cI, 8, .inl fgy)), (ga, .inr (0, [.ref gqx, .ref gqy, .int (f_X0_clear gn)]))] := hD
            refine lv_iconst (v := 0) hx hb dX5_fence_95 (by decide) ?_
            exact kk_ri (u_14, u_15, u_16, cl, (f_X0_clear gn)) hx hb hr hlk dX5_fence_96 hS (hP.sub [0, 7, 5, 6, 2, 3, 4, 1] rfl) (hD.sub [0, 7, 5, 6, 2, 3, 4, 1] (by decide) rfl) (by show ((0 : Int32), u_14, u_15, u_16, cl, (f_X0_clear gn)) = f_X5_fence ce he lo si ti gn fgx fgy bn fbx fby lm lf cl; unfold f_X5_fence; rw [if_pos c_1]; rw [if_neg c_4]; rw [if_neg c_7]; rw [if_neg c_10]; rw [if_neg c_13]; rw [← hw_18]; try dsimp only; try rfl)
          · refine lv_bipush (v := -5) hx hb dX5_fence_69 (by decide) ?_
            exact kk_ri (fbx, fby, bn, ce, gn) hx hb hr hlk dX5_fence_71 hS (hP.sub [0, 5, 6, 7, 1, 2, 3, 4] rfl) (hD.sub [0, 5, 6, 7, 1, 2, 3, 4] (by decide) rfl) (by show ((-5 : Int32), fbx, fby, bn, ce, gn) = f_X5_fence ce he lo si ti gn fgx fgy bn fbx fby lm lf cl; unfold f_X5_fence; rw [if_pos c_1]; rw [if_neg c_4]; rw [if_neg c_7]; rw [if_neg c_10]; rw [if_pos c_13]; try rfl)
        · refine lv_bipush (v := -4) hx hb dX5_fence_53 (by decide) ?_
          exact kk_ri (fbx, fby, bn, ce, gn) hx hb hr hlk dX5_fence_55 hS (hP.sub [0, 5, 6, 7, 1, 2, 3, 4] rfl) (hD.sub [0, 5, 6, 7, 1, 2, 3, 4] (by decide) rfl) (by show ((-4 : Int32), fbx, fby, bn, ce, gn) = f_X5_fence ce he lo si ti gn fgx fgy bn fbx fby lm lf cl; unfold f_X5_fence; rw [if_pos c_1]; rw [if_neg c_4]; rw [if_neg c_7]; rw [if_pos c_10]; try rfl)
      · refine lv_bipush (v := -3) hx hb dX5_fence_35 (by decide) ?_
        exact kk_ri (fbx, fby, bn, ce, gn) hx hb hr hlk dX5_fence_37 hS (hP.sub [0, 5, 6, 7, 1, 2, 3, 4] rfl) (hD.sub [0, 5, 6, 7, 1, 2, 3, 4] (by decide) rfl) (by show ((-3 : Int32), fbx, fby, bn, ce, gn) = f_X5_fence ce he lo si ti gn fgx fgy bn fbx fby lm lf cl; unfold f_X5_fence; rw [if_pos c_1]; rw [if_neg c_4]; rw [if_pos c_7]; try rfl)
    · refine lv_bipush (v := -2) hx hb dX5_fence_22 (by decide) ?_
      exact kk_ri (fbx, fby, bn, ce, gn) hx hb hr hlk dX5_fence_24 hS (hP.sub [0, 7, 1, 2, 3, 4, 5, 6] rfl) (hD.sub [0, 7, 1, 2, 3, 4, 5, 6] (by decide) rfl) (by show ((-2 : Int32), fbx, fby, bn, ce, gn) = f_X5_fence ce he lo si ti gn fgx fgy bn fbx fby lm lf cl; unfold f_X5_fence; rw [if_pos c_1]; rw [if_pos c_4]; try rfl)
  · refine lv_iconst (v := -1) hx hb dX5_fence_10 (by decide) ?_
    exact kk_ri (fbx, fby, bn, ce, gn) hx hb hr hlk dX5_fence_11 hS (hP.sub [0, 1, 2, 3, 4, 5, 6, 7] rfl) (hD.sub [0, 1, 2, 3, 4, 5, 6, 7] (by decide) rfl) (by show ((-1 : Int32), fbx, fby, bn, ce, gn) = f_X5_fence ce he lo si ti gn fgx fgy bn fbx fby lm lf cl; unfold f_X5_fence; rw [if_neg c_1]; try rfl)
def f_X5_upload (ce : Int32) (he : Int32) (lo : Int32) (si : Int32) (ti : Int32) (uw : Int32) (us : Int32) (ug : Int32) (up : Int32) (un : Int32) (n : Int32) : Int32 × Int32 × Int32 × Int32 × Int32 × Int32 := (if (f_X5_isWithin n (1 : Int32) (8 : Int32)) = (0 : Int32) then ((-5 : Int32), uw, us, ug, up, un) else (match (f_X4_begin uw us ug up un n) with | (u_4, u_5, u_6, u_7, u_8) => ((0 : Int32), u_4, u_5, u_6, u_7, u_8)))
set_option maxHeartbeats 4000000 in
set_option maxRecDepth 100000 in
theorem k_X5_upload (l : Launch) (D : va_G) (cI cZ : ClassId) (o : Nat) (ga : Nat) (ba : Nat) (ua : Nat) (ma : Nat) (sa : Nat) (la : Nat) (pa : Nat) (wa : Nat) (ui : Nat) (ur : Nat) (sz : Nat) (ce : Int32) (he : Int32) (lo : Int32) (si : Int32) (ti : Int32) (uw : Int32) (us : Int32) (ug : Int32) (up : Int32) (un : Int32) (n : Int32)  : kk_Mi l D cI cZ yX5_upload wsX5_upload ({ frames := 2, cells := 0, slots := 0, locals := 41 } : Room) [.ref o, .int n] sz [(o, .inr (5, [.ref ga, .ref ba, .ref ua, .ref ma, .ref sa, .ref la, .ref pa, .ref wa, .int ce, .int he, .int lo, .int si, .int ti])), (ua, .inr (4, [.ref ui, .int uw, .int us, .int ug, .int up])), (ui, .inr (1, [.ref ur, .int un]))] (fun (r : Int32) (u : Int32 × Int32 × Int32 × Int32 × Int32) => (r, u) = f_X5_upload ce he lo si ti uw us ug up un n) (fun u => [(o, .inr (5, [.ref ga, .ref ba, .ref ua, .ref ma, .ref sa, .ref la, .ref pa, .ref wa, .int ce, .int he, .int lo, .int si, .int ti])), (ua, .inr (4, [.ref ui, .int u.1, .int u.2.1, .int u.2.2.1, .int u.2.2.2.1])), (ui, .inr (1, [.ref ur, .int u.2.2.2.2]))]) 0 0 := by
  refine kk_enti (cc := cX5_upload) (maxL := 2) (ret := (some .int)) (by decide +kernel) rfl (Nat.le_of_ble_eq_true rfl) (fun p e s m args below meth c A ls hX hP hD hS hl => ?_)
  obtain ⟨hx, hb, hml, hown, hts, hr, hlk, hnm, hK, hA⟩ := hX
  have hown : s.vm.findClass RX5 = some m.cls := hown
  have hiX1 : ∀ w ∈ wsX10, w ∈ wsX5_upload := by decide +kernel
  have hiX4 : ∀ w ∈ wsX40, w ∈ wsX5_upload := by decide +kernel
  have hiX5 : ∀ w ∈ wsX50, w ∈ wsX5_upload := by decide +kernel
  have hl : lv_has ls 2 [(0, .ref o), (1, .int n)] := hl
  refine lv_iload_n hx hb dX5_upload_0 rfl (lv_at hl 1 rfl) ?_
  refine lv_iconst (v := 1) hx hb dX5_upload_1 (by decide) ?_
  refine lv_bipush (v := 8) hx hb dX5_upload_2 (by decide) ?_
  refine kk_cSi (wc := []) (wr := [(o, .inr (5, [.ref ga, .ref ba, .ref ua, .ref ma, .ref sa, .ref la, .ref pa, .ref wa, .int ce, .int he, .int lo, .int si, .int ti])), (ua, .inr (4, [.ref ui, .int uw, .int us, .int ug, .int up])), (ui, .inr (1, [.ref ur, .int un]))]) ⟨hx, hb, hml, hown, hts⟩ hK hP hD hS hA [] [0, 1, 2] (k_X5_isWithin l D cI cZ  s.heap.size n (1 : Int32) (8 : Int32)) (va_cwS 3 hts gX5_upload_X5_isWithin rfl rfl rfl (by decide +kernel) ⟨(Nat.le_of_ble_eq_true rfl), (Nat.le_of_ble_eq_true rfl)⟩) rfl rfl (by decide) (by decide) (by decide) rfl hl.1 rfl (Nat.le_of_ble_eq_true rfl) dX5_upload_4 ⟨(Nat.le_of_ble_eq_true rfl), (Nat.le_of_ble_eq_true rfl)⟩ (fun r_1 u H locs hw_2 hP hD hS => ?_)
  have hw_2 : (f_X5_isWithin n (1 : Int32) (8 : Int32)) = r_1 := (hw_2 : r_1 = (f_X5_isWithin n (1 : Int32) (8 : Int32))).symm
  subst hw_2
  have hP : va_P D vwCl [(o, .inr (5, [.ref ga, .ref ba, .ref ua, .ref ma, .ref sa, .ref la, .ref pa, .ref wa, .int ce, .int he, .int lo, .int si, .int ti])), (ua, .inr (4, [.ref ui, .int uw, .int us, .int ug, .int up])), (ui, .inr (1, [.ref ur, .int un]))] H := hP
  have hD : va_D A [(o, .inr (5, [.ref ga, .ref ba, .ref ua, .ref ma, .ref sa, .ref la, .ref pa, .ref wa, .int ce, .int he, .int lo, .int si, .int ti])), (ua, .inr (4, [.ref ui, .int uw, .int us, .int ug, .int up])), (ui, .inr (1, [.ref ur, .int un]))] := hD
  refine lv_if_ne (tgt := 13) hx hb dX5_upload_7 (by decide) (fun c_3 => ?_) (fun c_3 => ?_)
  · refine lv_aload_n hx hb dX5_upload_13 rfl (lv_at hl 0 rfl) ?_
    refine va_get (D := D) hx hb hts hiX5 hown hK.1 hP 0 rfl rfl 2 (by decide) (hts (.fieldLink RX5 22 "FencePilot" "incoming" "LFencePilot$Upload;") (by decide +kernel)) (fun _ h9 => h9) rfl dX5_upload_14 ?_
    refine lv_iload_n hx hb dX5_upload_17 rfl (lv_at hl 1 rfl) ?_
    refine kk_cVv (wc := [(ua, .inr (4, [.ref ui, .int uw, .int us, .int ug, .int up])), (ui, .inr (1, [.ref ur, .int un]))]) (wr := [(o, .inr (5, [.ref ga, .ref ba, .ref ua, .ref ma, .ref sa, .ref la, .ref pa, .ref wa, .int ce, .int he, .int lo, .int si, .int ti]))]) ⟨hx, hb, hml, hown, hts⟩ hK hP hD hS hA [1, 2] [0] (k_X4_begin l D cI cZ ua ui ur H.size uw us ug up un n) (cwV 1 hts gX5_upload_X4_begin rfl rfl rfl (by decide +kernel) ⟨(Nat.le_of_ble_eq_true rfl), (Nat.le_of_ble_eq_true rfl)⟩) rfl rfl (by decide) (by decide) (by decide) 0 4 rfl rfl rfl rfl hl.1 rfl (Nat.le_of_ble_eq_true rfl) dX5_upload_18 ⟨(Nat.le_of_ble_eq_true rfl), (Nat.le_of_ble_eq_true rfl)⟩ (fun u H locs hw_10 hP hD hS => ?_)
    obtain ⟨u_4, u_5, u_6, u_7, u_8⟩ := u
    have hw_10 : (u_4, u_5, u_6, u_7, u_8) = (f_X4_begin uw us ug up un n) := hw_10
    have hP : va_P D vwCl [(o, .inr (5, [.ref ga, .ref ba, .ref ua, .ref ma, .ref sa, .ref la, .ref pa, .ref wa, .int ce, .int he, .int lo, .int si, .int ti])), (ua, .inr (4, [.ref ui, .int u_4, .int u_5, .int u_6, .int u_7])), (ui, .inr (1, [.ref ur, .int u_8]))] H := hP
    have hD : va_D A [(o, .inr (5, [.ref ga, .ref ba, .ref ua, .ref ma, .ref sa, .ref la, .ref pa, .ref wa, .int ce, .int he, .int lo, .int si, .int ti])), (ua, .inr (4, [.ref ui, .int u_4, .int u_5, .int u_6, .int u_7])), (ui, .inr (1, [.ref ur, .int u_8]))] := hD
    refine lv_iconst (v := 0) hx hb dX5_upload_21 (by decide) ?_
    exact kk_ri (u_4, u_5, u_6, u_7, u_8) hx hb hr hlk dX5_upload_22 hS (hP.sub [0, 1, 2] rfl) (hD.sub [0, 1, 2] (by decide) rfl) (by show ((0 : Int32), u_4, u_5, u_6, u_7, u_8) = f_X5_upload ce he lo si ti uw us ug up un n; unfold f_X5_upload; rw [if_neg c_3]; rw [← hw_10]; try dsimp only; try rfl)
  · refine lv_bipush (v := -5) hx hb dX5_upload_10 (by decide) ?_
    exact kk_ri (uw, us, ug, up, un) hx hb hr hlk dX5_upload_12 hS (hP.sub [0, 1, 2] rfl) (hD.sub [0, 1, 2] (by decide) rfl) (by show ((-5 : Int32), uw, us, ug, up, un) = f_X5_upload ce he lo si ti uw us ug up un n; unfold f_X5_upload; rw [if_pos c_3]; try rfl)
def f_X5_item (ce : Int32) (he : Int32) (lo : Int32) (si : Int32) (ti : Int32) (uw : Int32) (us : Int32) (ug : Int32) (up : Int32) (un : Int32) (fur : Nat → Int32) (mn : Int32) (fmr : Nat → Int32) (k : Int32) (x : Int32) (y : Int32) (z : Int32) : Int32 × Int32 × Int32 × Int32 × Int32 × Int32 × (Nat → Int32) × Int32 × (Nat → Int32) := (if uw = (0 : Int32) then ((-6 : Int32), he, uw, ug, up, un, fur, mn, fmr) else (if (f_X5_isOnMap x y) = (0 : Int32) then ((-5 : Int32), he, uw, ug, up, un, fur, mn, fmr) else (if (f_X5_isWithin z (500 : Int32) (10000 : Int32)) = (0 : Int32) then ((-5 : Int32), he, uw, ug, up, un, fur, mn, fmr) else (if k = (f_X4_next uw us ug up un) then (match (f_X4_keep uw us ug up un fur x y z) with | (u_11, u_12, u_13, u_14) => (if (f_X4_isComplete uw us u_13 u_14 u_12) = (0 : Int32) then ((f_X4_next uw us u_13 u_14 u_12), he, uw, u_13, u_14, u_12, u_11, mn, fmr) else (match (f_X1_copyFrom mn fmr u_12 u_11) with | (u_23, u_24) => ((100 : Int32), (0 : Int32), (f_X4_end uw us u_13 u_14), u_13, u_14, u_12, u_11, u_24, u_23)))) else ((f_X4_next uw us ug up un), he, uw, ug, up, un, fur, mn, fmr)))))
set_option maxHeartbeats 4000000 in
set_option maxRecDepth 100000 in
theorem k_X5_item (l : Launch) (D : va_G) (cI cZ : ClassId) (o : Nat) (ga : Nat) (ba : Nat) (ua : Nat) (ma : Nat) (sa : Nat) (la : Nat) (pa : Nat) (wa : Nat) (ui : Nat) (ur : Nat) (mr : Nat) (sz : Nat) (ce : Int32) (he : Int32) (lo : Int32) (si : Int32) (ti : Int32) (uw : Int32) (us : Int32) (ug : Int32) (up : Int32) (un : Int32) (fur : Nat → Int32) (mn : Int32) (fmr : Nat → Int32) (k : Int32) (x : Int32) (y : Int32) (z : Int32) (hun : kk_L un 8) : kk_Mi l D cI cZ yX5_item wsX5_item ({ frames := 2, cells := 0, slots := 0, locals := 46 } : Room) [.ref o, .int k, .int x, .int y, .int z] sz [(o, .inr (5, [.ref ga, .ref ba, .ref ua, .ref ma, .ref sa, .ref la, .ref pa, .ref wa, .int ce, .int he, .int lo, .int si, .int ti])), (ua, .inr (4, [.ref ui, .int uw, .int us, .int ug, .int up])), (ui, .inr (1, [.ref ur, .int un])), (ur, .inl (cI, 24, .inl fur)), (ma, .inr (1, [.ref mr, .int mn])), (mr, .inl (cI, 24, .inl fmr))] (fun (r : Int32) (u : Int32 × Int32 × Int32 × Int32 × Int32 × (Nat → Int32) × Int32 × (Nat → Int32)) => (r, u) = f_X5_item ce he lo si ti uw us ug up un fur mn fmr k x y z) (fun u => [(o, .inr (5, [.ref ga, .ref ba, .ref ua, .ref ma, .ref sa, .ref la, .ref pa, .ref wa, .int ce, .int u.1, .int lo, .int si, .int ti])), (ua, .inr (4, [.ref ui, .int u.2.1, .int us, .int u.2.2.1, .int u.2.2.2.1])), (ui, .inr (1, [.ref ur, .int u.2.2.2.2.1])), (ur, .inl (cI, 24, .inl u.2.2.2.2.2.1)), (ma, .inr (1, [.ref mr, .int u.2.2.2.2.2.2.1])), (mr, .inl (cI, 24, .inl u.2.2.2.2.2.2.2))]) 0 0 := by
  refine kk_enti (cc := cX5_item) (maxL := 5) (ret := (some .int)) (by decide +kernel) rfl (Nat.le_of_ble_eq_true rfl) (fun p e s m args below meth c A ls hX hP hD hS hl => ?_)
  obtain ⟨hx, hb, hml, hown, hts, hr, hlk, hnm, hK, hA⟩ := hX
  have hown : s.vm.findClass RX5 = some m.cls := hown
  have hiX1 : ∀ w ∈ wsX10, w ∈ wsX5_item := by decide +kernel
  have hiX4 : ∀ w ∈ wsX40, w ∈ wsX5_item := by decide +kernel
  have hiX5 : ∀ w ∈ wsX50, w ∈ wsX5_item := by decide +kernel
  have hl : lv_has ls 5 [(0, .ref o), (1, .int k), (2, .int x), (3, .int y), (4, .int z)] := hl
  refine lv_aload_n hx hb dX5_item_0 rfl (lv_at hl 0 rfl) ?_
  refine va_get (D := D) hx hb hts hiX5 hown hK.1 hP 0 rfl rfl 2 (by decide) (hts (.fieldLink RX5 22 "FencePilot" "incoming" "LFencePilot$Upload;") (by decide +kernel)) (fun _ h9 => h9) rfl dX5_item_1 ?_
  refine va_getN (D := D) hx hb hts hiX4 hown hK.1 hP 1 rfl rfl 1 (by decide) (va_Nw.use rfl hK.2.1) (fun _ h9 => h9) rfl dX5_item_4 ?_
  refine lv_if_ne (tgt := 13) hx hb dX5_item_7 (by decide) (fun c_1 => ?_) (fun c_1 => ?_)
  · refine lv_iload_n hx hb dX5_item_13 rfl (lv_at hl 2 rfl) ?_
    refine lv_iload_n hx hb dX5_item_14 rfl (lv_at hl 3 rfl) ?_
    refine kk_cSi (wc := []) (wr := [(o, .inr (5, [.ref ga, .ref ba, .ref ua, .ref ma, .ref sa, .ref la, .ref pa, .ref wa, .int ce, .int he, .int lo, .int si, .int ti])), (ua, .inr (4, [.ref ui, .int uw, .int us, .int ug, .int up])), (ui, .inr (1, [.ref ur, .int un])), (ur, .inl (cI, 24, .inl fur)), (ma, .inr (1, [.ref mr, .int mn])), (mr, .inl (cI, 24, .inl fmr))]) ⟨hx, hb, hml, hown, hts⟩ hK hP hD hS hA [] [0, 1, 2, 3, 4, 5] (k_X5_isOnMap l D cI cZ  s.heap.size x y) (va_cwS 2 hts gX5_item_X5_isOnMap rfl rfl rfl (by decide +kernel) ⟨(Nat.le_of_ble_eq_true rfl), (Nat.le_of_ble_eq_true rfl)⟩) rfl rfl (by decide) (by decide) (by decide) rfl hl.1 rfl (Nat.le_of_ble_eq_true rfl) dX5_item_15 ⟨(Nat.le_of_ble_eq_true rfl), (Nat.le_of_ble_eq_true rfl)⟩ (fun r_2 u H locs hw_3 hP hD hS => ?_)
    have hw_3 : (f_X5_isOnMap x y) = r_2 := (hw_3 : r_2 = (f_X5_isOnMap x y)).symm
    subst hw_3
    have hP : va_P D vwCl [(o, .inr (5, [.ref ga, .ref ba, .ref ua, .ref ma, .ref sa, .ref la, .ref pa, .ref wa, .int ce, .int he, .int lo, .int si, .int ti])), (ua, .inr (4, [.ref ui, .int uw, .int us, .int ug, .int up])), (ui, .inr (1, [.ref ur, .int un])), (ur, .inl (cI, 24, .inl fur)), (ma, .inr (1, [.ref mr, .int mn])), (mr, .inl (cI, 24, .inl fmr))] H := hP
    have hD : va_D A [(o, .inr (5, [.ref ga, .ref ba, .ref ua, .ref ma, .ref sa, .ref la, .ref pa, .ref wa, .int ce, .int he, .int lo, .int si, .int ti])), (ua, .inr (4, [.ref ui, .int uw, .int us, .int ug, .int up])), (ui, .inr (1, [.ref ur, .int un])), (ur, .inl (cI, 24, .inl fur)), (ma, .inr (1, [.ref mr, .int mn])), (mr, .inl (cI, 24, .inl fmr))] := hD
    refine lv_if_eq (tgt := 35) hx hb dX5_item_18 (by decide) (fun c_4 => ?_) (fun c_4 => ?_)
    · refine lv_bipush (v := -5) hx hb dX5_item_35 (by decide) ?_
      exact kk_ri (he, uw, ug, up, un, fur, mn, fmr) hx hb hr hlk dX5_item_37 hS (hP.sub [0, 1, 2, 3, 4, 5] rfl) (hD.sub [0, 1, 2, 3, 4, 5] (by decide) rfl) (by show ((-5 : Int32), he, uw, ug, up, un, fur, mn, fmr) = f_X5_item ce he lo si ti uw us ug up un fur mn fmr k x y z; unfold f_X5_item; rw [if_neg c_1]; rw [if_pos c_4]; try rfl)
    · refine lv_iload hx hb dX5_item_21 (lv_at hl 4 rfl) ?_
      refine lv_sipush (v := 500) hx hb dX5_item_23 (by decide) ?_
      refine lv_sipush (v := 10000) hx hb dX5_item_26 (by decide) ?_
      refine kk_cSi (wc := []) (wr := [(o, .inr (5, [.ref ga, .ref ba, .ref ua, .ref ma, .ref sa, .ref la, .ref pa, .ref wa, .int ce, .int he, .int lo, .int si, .int ti])), (ua, .inr (4, [.ref ui, .int uw, .int us, .int ug, .int up])), (ui, .inr (1, [.ref ur, .int un])), (ur, .inl (cI, 24, .inl fur)), (ma, .inr (1, [.ref mr, .int mn])), (mr, .inl (cI, 24, .inl fmr))]) ⟨hx, hb, hml, hown, hts⟩ hK hP hD hS hA [] [0, 1, 2, 3, 4, 5] (k_X5_isWithin l D cI cZ  H.size z (500 : Int32) (10000 : Int32)) (va_cwS 3 hts gX5_item_X5_isWithin rfl rfl rfl (by decide +kernel) ⟨(Nat.le_of_ble_eq_true rfl), (Nat.le_of_ble_eq_true rfl)⟩) rfl rfl (by decide) (by decide) (by decide) rfl hl.1 rfl (Nat.le_of_ble_eq_true rfl) dX5_item_29 ⟨(Nat.le_of_ble_eq_true rfl), (Nat.le_of_ble_eq_true rfl)⟩ (fun r_5 u H locs hw_6 hP hD hS => ?_)
      have hw_6 : (f_X5_isWithin z (500 : Int32) (10000 : Int32)) = r_5 := (hw_6 : r_5 = (f_X5_isWithin z (500 : Int32) (10000 : Int32))).symm
      subst hw_6
      have hP : va_P D vwCl [(o, .inr (5, [.ref ga, .ref ba, .ref ua, .ref ma, .ref sa, .ref la, .ref pa, .ref wa, .int ce, .int he, .int lo, .int si, .int ti])), (ua, .inr (4, [.ref ui, .int uw, .int us, .int ug, .int up])), (ui, .inr (1, [.ref ur, .int un])), (ur, .inl (cI, 24, .inl fur)), (ma, .inr (1, [.ref mr, .int mn])), (mr, .inl (cI, 24, .inl fmr))] H := hP
      have hD : va_D A [(o, .inr (5, [.ref ga, .ref ba, .ref ua, .ref ma, .ref sa, .ref la, .ref pa, .ref wa, .int ce, .int he, .int lo, .int si, .int ti])), (ua, .inr (4, [.ref ui, .int uw, .int us, .int ug, .int up])), (ui, .inr (1, [.ref ur, .int un])), (ur, .inl (cI, 24, .inl fur)), (ma, .inr (1, [.ref mr, .int mn])), (mr, .inl (cI, 24, .inl fmr))] := hD
      refine lv_if_ne (tgt := 38) hx hb dX5_item_32 (by decide) (fun c_7 => ?_) (fun c_7 => ?_)
      · refine lv_iload_n hx hb dX5_item_38 rfl (lv_at hl 1 rfl) ?_
        refine lv_aload_n hx hb dX5_item_39 rfl (lv_at hl 0 rfl) ?_
        refine va_get (D := D) hx hb hts hiX5 hown hK.1 hP 0 rfl rfl 2 (by decide) (hts (.fieldLink RX5 22 "FencePilot" "incoming" "LFencePilot$Upload;") (by decide +kernel)) (fun _ h9 => h9) rfl dX5_item_40 ?_
        refine kk_cVi (wc := [(ua, .inr (4, [.ref ui, .int uw, .int us, .int ug, .int up])), (ui, .inr (1, [.ref ur, .int un]))]) (wr := [(o, .inr (5, [.ref ga, .ref ba, .ref ua, .ref ma, .ref sa, .ref la, .ref pa, .ref wa, .int ce, .int he, .int lo, .int si, .int ti])), (ur, .inl (cI, 24, .inl fur)), (ma, .inr (1, [.ref mr, .int mn])), (mr, .inl (cI, 24, .inl fmr))]) ⟨hx, hb, hml, hown, hts⟩ hK hP hD hS hA [1, 2] [0, 3, 4, 5] (k_X4_next l D cI cZ ua ui ur H.size uw us ug up un) (cwV 0 hts gX5_item_X4_next rfl rfl rfl (by decide +kernel) ⟨(Nat.le_of_ble_eq_true rfl), (Nat.le_of_ble_eq_true rfl)⟩) rfl rfl (by decide) (by decide) (by decide) 0 4 rfl rfl rfl rfl hl.1 rfl (Nat.le_of_ble_eq_true rfl) dX5_item_43 ⟨(Nat.le_of_ble_eq_true rfl), (Nat.le_of_ble_eq_true rfl)⟩ (fun r_8 u H locs hw_9 hP hD hS => ?_)
        have hw_9 : (f_X4_next uw us ug up un) = r_8 := (hw_9 : r_8 = (f_X4_next uw us ug up un)).symm
        subst hw_9
        have hP : va_P D vwCl [(o, .inr (5, [.ref ga, .ref ba, .ref ua, .ref ma, .ref sa, .ref la, .ref pa, .ref wa, .int ce, .int he, .int lo, .int si, .int ti])), (ur, .inl (cI, 24, .inl fur)), (ma, .inr (1, [.ref mr, .int mn])), (mr, .inl (cI, 24, .inl fmr)), (ua, .inr (4, [.ref ui, .int uw, .int us, .int ug, .int up])), (ui, .inr (1, [.ref ur, .int un]))] H := hP
        have hD : va_D A [(o, .inr (5, [.ref ga, .ref ba, .ref ua, .ref ma, .ref sa, .ref la, .ref pa, .ref wa, .int ce, .int he, .int lo, .int si, .int ti])), (ur, .inl (cI, 24, .inl fur)), (ma, .inr (1, [.ref mr, .int mn])), (mr, .inl (cI, 24, .inl fmr)), (ua, .inr (4, [.ref ui, .int uw, .int us, .int ug, .int up])), (ui, .inr (1, [.ref ur, .int un]))] := hD
        refine lv_icmp_eq (tgt := 57) hx hb dX5_item_46 (by decide) (fun c_10 => ?_) (fun c_10 => ?_)
        · refine lv_aload_n hx hb dX5_item_57 rfl (lv_at hl 0 rfl) ?_
          refine va_get (D := D) hx hb hts hiX5 hown hK.1 hP 0 rfl rfl 2 (by decide) (hts (.fieldLink RX5 22 "FencePilot" "incoming" "LFencePilot$Upload;") (by decide +kernel)) (fun _ h9 => h9) rfl dX5_item_58 ?_
          refine lv_iload_n hx hb dX5_item_61 rfl (lv_at hl 2 rfl) ?_
          refine lv_iload_n hx hb dX5_item_62 rfl (lv_at hl 3 rfl) ?_
          refine lv_iload hx hb dX5_item_63 (lv_at hl 4 rfl) ?_
          refine kk_cVv (wc := [(ua, .inr (4, [.ref ui, .int uw, .int us, .int ug, .int up])), (ui, .inr (1, [.ref ur, .int un])), (ur, .inl (cI, 24, .inl fur))]) (wr := [(o, .inr (5, [.ref ga, .ref ba, .ref ua, .ref ma, .ref sa, .ref la, .ref pa, .ref wa, .int ce, .int he, .int lo, .int si, .int ti])), (ma, .inr (1, [.ref mr, .int mn])), (mr, .inl (cI, 24, .inl fmr))]) ⟨hx, hb, hml, hown, hts⟩ hK hP hD hS hA [4, 5, 1] [0, 2, 3] (k_X4_keep l D cI cZ ua ui ur H.size uw us ug up un fur x y z (by assumption)) (cwV 3 hts gX5_item_X4_keep rfl rfl rfl (by decide +kernel) ⟨(Nat.le_of_ble_eq_true rfl), (Nat.le_of_ble_eq_true rfl)⟩) rfl rfl (by decide) (by decide) (by decide) 0 4 rfl rfl rfl rfl hl.1 rfl (Nat.le_of_ble_eq_true rfl) dX5_item_65 ⟨(Nat.le_of_ble_eq_true rfl), (Nat.le_of_ble_eq_true rfl)⟩ (fun u H locs hw_16 hP hD hS => ?_)
          obtain ⟨u_11, u_12, u_13, u_14⟩ := u
          have hw_16 : (u_11, u_12, u_13, u_14) = (f_X4_keep uw us ug up un fur x y z) := hw_16
          have hP : va_P D vwCl [(o, .inr (5, [.ref ga, .ref ba, .ref ua, .ref ma, .ref sa, .ref la, .ref pa, .ref wa, .int ce, .int he, .int lo, .int si, .int ti])), (ma, .inr (1, [.ref mr, .int mn])), (mr, .inl (cI, 24, .inl fmr)), (ua, .inr (4, [.ref ui, .int uw, .int us, .int u_13, .int u_14])), (ui, .inr (1, [.ref ur, .int u_12])), (ur, .inl (cI, 24, .inl u_11))] H := hP
          have hD : va_D A [(o, .inr (5, [.ref ga, .ref ba, .ref ua, .ref ma, .ref sa, .ref la, .ref pa, .ref wa, .int ce, .int he, .int lo, .int si, .int ti])), (ma, .inr (1, [.ref mr, .int mn])), (mr, .inl (cI, 24, .inl fmr)), (ua, .inr (4, [.ref ui, .int uw, .int us, .int u_13, .int u_14])), (ui, .inr (1, [.ref ur, .int u_12])), (ur, .inl (cI, 24, .inl u_11))] := hD
          refine lv_aload_n hx hb dX5_item_68 rfl (lv_at hl 0 rfl) ?_
          refine va_get (D := D) hx hb hts hiX5 hown hK.1 hP 0 rfl rfl 2 (by decide) (hts (.fieldLink RX5 22 "FencePilot" "incoming" "LFencePilot$Upload;") (by decide +kernel)) (fun _ h9 => h9) rfl dX5_item_69 ?_
          refine kk_cVi (wc := [(ua, .inr (4, [.ref ui, .int uw, .int us, .int u_13, .int u_14])), (ui, .inr (1, [.ref ur, .int u_12]))]) (wr := [(o, .inr (5, [.ref ga, .ref ba, .ref ua, .ref ma, .ref sa, .ref la, .ref pa, .ref wa, .int ce, .int he, .int lo, .int si, .int ti])), (ma, .inr (1, [.ref mr, .int mn])), (mr, .inl (cI, 24, .inl fmr)), (ur, .inl (cI, 24, .inl u_11))]) ⟨hx, hb, hml, hown, hts⟩ hK hP hD hS hA [3, 4] [0, 1, 2, 5] (k_X4_isComplete l D cI cZ ua ui ur H.size uw us u_13 u_14 u_12) (cwV 0 hts gX5_item_X4_isComplete rfl rfl rfl (by decide +kernel) ⟨(Nat.le_of_ble_eq_true rfl), (Nat.le_of_ble_eq_true rfl)⟩) rfl rfl (by decide) (by decide) (by decide) 0 4 rfl rfl rfl rfl hl.1 rfl (Nat.le_of_ble_eq_true rfl) dX5_item_72 ⟨(Nat.le_of_ble_eq_true rfl), (Nat.le_of_ble_eq_true rfl)⟩ (fun r_17 u H locs hw_18 hP hD hS => ?_)
          have hw_18 : (f_X4_isComplete uw us u_13 u_14 u_12) = r_17 := (hw_18 : r_17 = (f_X4_isComplete uw us u_13 u_14 u_12)).symm
          subst hw_18
          have hP : va_P D vwCl [(o, .inr (5, [.ref ga, .ref ba, .ref ua, .ref ma, .ref sa, .ref la, .ref pa, .ref wa, .int ce, .int he, .int lo, .int si, .int ti])), (ma, .inr (1, [.ref mr, .int mn])), (mr, .inl (cI, 24, .inl fmr)), (ur, .inl (cI, 24, .inl u_11)), (ua, .inr (4, [.ref ui, .int uw, .int us, .int u_13, .int u_14])), (ui, .inr (1, [.ref ur, .int u_12]))] H := hP
          have hD : va_D A [(o, .inr (5, [.ref ga, .ref ba, .ref ua, .ref ma, .ref sa, .ref la, .ref pa, .ref wa, .int ce, .int he, .int lo, .int si, .int ti])), (ma, .inr (1, [.ref mr, .int mn])), (mr, .inl (cI, 24, .inl fmr)), (ur, .inl (cI, 24, .inl u_11)), (ua, .inr (4, [.ref ui, .int uw, .int us, .int u_13, .int u_14])), (ui, .inr (1, [.ref ur, .int u_12]))] := hD
          refine lv_if_ne (tgt := 86) hx hb dX5_item_75 (by decide) (fun c_19 => ?_) (fun c_19 => ?_)
          · refine lv_aload_n hx hb dX5_item_86 rfl (lv_at hl 0 rfl) ?_
            refine va_get (D := D) hx hb hts hiX5 hown hK.1 hP 0 rfl rfl 2 (by decide) (hts (.fieldLink RX5 22 "FencePilot" "incoming" "LFencePilot$Upload;") (by decide +kernel)) (fun _ h9 => h9) rfl dX5_item_87 ?_
            refine kk_cVv (wc := [(ua, .inr (4, [.ref ui, .int uw, .int us, .int u_13, .int u_14]))]) (wr := [(o, .inr (5, [.ref ga, .ref ba, .ref ua, .ref ma, .ref sa, .ref la, .ref pa, .ref wa, .int ce, .int he, .int lo, .int si, .int ti])), (ma, .inr (1, [.ref mr, .int mn])), (mr, .inl (cI, 24, .inl fmr)), (ur, .inl (cI, 24, .inl u_11)), (ui, .inr (1, [.ref ur, .int u_12]))]) ⟨hx, hb, hml, hown, hts⟩ hK hP hD hS hA [4] [0, 1, 2, 3, 5] (k_X4_end l D cI cZ ua ui H.size uw us u_13 u_14) (cwV 0 hts gX5_item_X4_end rfl rfl rfl (by decide +kernel) ⟨(Nat.le_of_ble_eq_true rfl), (Nat.le_of_ble_eq_true rfl)⟩) rfl rfl (by decide) (by decide) (by decide) 0 4 rfl rfl rfl rfl hl.1 rfl (Nat.le_of_ble_eq_true rfl) dX5_item_90 ⟨(Nat.le_of_ble_eq_true rfl), (Nat.le_of_ble_eq_true rfl)⟩ (fun u_20 H locs hw_22 hP hD hS => ?_)
            have hw_22 : (f_X4_end uw us u_13 u_14) = u_20 := (hw_22 : u_20 = (f_X4_end uw us u_13 u_14)).symm
            subst hw_22
            have hP : va_P D vwCl [(o, .inr (5, [.ref ga, .ref ba, .ref ua, .ref ma, .ref sa, .ref la, .ref pa, .ref wa, .int ce, .int he, .int lo, .int si, .int ti])), (ma, .inr (1, [.ref mr, .int mn])), (mr, .inl (cI, 24, .inl fmr)), (ur, .inl (cI, 24, .inl u_11)), (ui, .inr (1, [.ref ur, .int u_12])), (ua, .inr (4, [.ref ui, .int (f_X4_end uw us u_13 u_14), .int us, .int u_13, .int u_14]))] H := hP
            have hD : va_D A [(o, .inr (5, [.ref ga, .ref ba, .ref ua, .ref ma, .ref sa, .ref la, .ref pa, .ref wa, .int ce, .int he, .int lo, .int si, .int ti])), (ma, .inr (1, [.ref mr, .int mn])), (mr, .inl (cI, 24, .inl fmr)), (ur, .inl (cI, 24, .inl u_11)), (ui, .inr (1, [.ref ur, .int u_12])), (ua, .inr (4, [.ref ui, .int (f_X4_end uw us u_13 u_14), .int us, .int u_13, .int u_14]))] := hD
            refine lv_aload_n hx hb dX5_item_93 rfl (lv_at hl 0 rfl) ?_
            refine va_get (D := D) hx hb hts hiX5 hown hK.1 hP 0 rfl rfl 3 (by decide) (hts (.fieldLink RX5 29 "FencePilot" "mission" "LFencePilot$Items;") (by decide +kernel)) (fun _ h9 => h9) rfl dX5_item_94 ?_
            refine lv_aload_n hx hb dX5_item_97 rfl (lv_at hl 0 rfl) ?_
            refine va_get (D := D) hx hb hts hiX5 hown hK.1 hP 0 rfl rfl 2 (by decide) (hts (.fieldLink RX5 22 "FencePilot" "incoming" "LFencePilot$Upload;") (by decide +kernel)) (fun _ h9 => h9) rfl dX5_item_98 ?_
            refine va_getN (D := D) hx hb hts hiX4 hown hK.1 hP 5 rfl rfl 0 (by decide) (va_Nw.use rfl hK.2.2.1) (fun _ h9 => h9) rfl dX5_item_101 ?_
            refine kk_cVv (wc := [(ma, .inr (1, [.ref mr, .int mn])), (mr, .inl (cI, 24, .inl fmr)), (ui, .inr (1, [.ref ur, .int u_12])), (ur, .inl (cI, 24, .inl u_11))]) (wr := [(o, .inr (5, [.ref ga, .ref ba, .ref ua, .ref ma, .ref sa, .ref la, .ref pa, .ref wa, .int ce, .int he, .int lo, .int si, .int ti])), (ua, .inr (4, [.ref ui, .int (f_X4_end uw us u_13 u_14), .int us, .int u_13, .int u_14]))]) ⟨hx, hb, hml, hown, hts⟩ hK hP hD hS hA [1, 2, 4, 3] [0, 5] (k_X1_copyFrom l D cI cZ ma mr ui ur H.size mn fmr u_12 u_11) (cwV 1 hts gX5_item_X1_copyFrom rfl rfl rfl (by decide +kernel) ⟨(Nat.le_of_ble_eq_true rfl), (Nat.le_of_ble_eq_true rfl)⟩) rfl rfl (by decide) (by decide) (by decide) 0 1 rfl rfl rfl rfl hl.1 rfl (Nat.le_of_ble_eq_true rfl) dX5_item_104 ⟨(Nat.le_of_ble_eq_true rfl), (Nat.le_of_ble_eq_true rfl)⟩ (fun u H locs hw_26 hP hD hS => ?_)
            obtain ⟨u_23, u_24⟩ := u
            have hw_26 : (u_23, u_24) = (f_X1_copyFrom mn fmr u_12 u_11) := hw_26
            have hP : va_P D vwCl [(o, .inr (5, [.ref ga, .ref ba, .ref ua, .ref ma, .ref sa, .ref la, .ref pa, .ref wa, .int ce, .int he, .int lo, .int si, .int ti])), (ua, .inr (4, [.ref ui, .int (f_X4_end uw us u_13 u_14), .int us, .int u_13, .int u_14])), (ma, .inr (1, [.ref mr, .int u_24])), (mr, .inl (cI, 24, .inl u_23)), (ui, .inr (1, [.ref ur, .int u_12])), (ur, .inl (cI, 24, .inl u_11))] H := hP
            have hD : va_D A [(o, .inr (5, [.ref ga, .ref ba, .ref ua, .ref ma, .ref sa, .ref la, .ref pa, .ref wa, .int ce, .int he, .int lo, .int si, .int ti])), (ua, .inr (4, [.ref ui, .int (f_X4_end uw us u_13 u_14), .int us, .int u_13, .int u_14])), (ma, .inr (1, [.ref mr, .int u_24])), (mr, .inl (cI, 24, .inl u_23)), (ui, .inr (1, [.ref ur, .int u_12])), (ur, .inl (cI, 24, .inl u_11))] := hD
            refine lv_aload_n hx hb dX5_item_107 rfl (lv_at hl 0 rfl) ?_
            refine lv_iconst (v := 0) hx hb dX5_item_108 (by decide) ?_
            refine va_put (D := D) (ci := 5) (v := .int (0 : Int32)) (ty := .int) (C := RX5) (T := TX5) (N := 13) hx hb hts hiX5 tyX5 tyX5_ok nmX5 hown hK.1 hP hD hS 0 rfl rfl 9 (by decide) (hts (.fieldLink RX5 58 "FencePilot" "heading" "I") (by decide +kernel)) (fun _ h9 => h9) rfl (by decide +kernel) rfl rfl (Nat.le_of_ble_eq_true rfl) dX5_item_109 (fun H locs hP hD hS => ?_)
            have hP : va_P D vwCl [(o, .inr (5, [.ref ga, .ref ba, .ref ua, .ref ma, .ref sa, .ref la, .ref pa, .ref wa, .int ce, .int (0 : Int32), .int lo, .int si, .int ti])), (ua, .inr (4, [.ref ui, .int (f_X4_end uw us u_13 u_14), .int us, .int u_13, .int u_14])), (ma, .inr (1, [.ref mr, .int u_24])), (mr, .inl (cI, 24, .inl u_23)), (ui, .inr (1, [.ref ur, .int u_12])), (ur, .inl (cI, 24, .inl u_11))] H := hP
            have hD : va_D A [(o, .inr (5, [.ref ga, .ref ba, .ref ua, .ref ma, .ref sa, .ref la, .ref pa, .ref wa, .int ce, .int (0 : Int32), .int lo, .int si, .int ti])), (ua, .inr (4, [.ref ui, .int (f_X4_end uw us u_13 u_14), .int us, .int u_13, .int u_14])), (ma, .inr (1, [.ref mr, .int u_24])), (mr, .inl (cI, 24, .inl u_23)), (ui, .inr (1, [.ref ur, .int u_12])), (ur, .inl (cI, 24, .inl u_11))] := hD
            refine lv_bipush (v := 100) hx hb dX5_item_112 (by decide) ?_
            exact kk_ri ((0 : Int32), (f_X4_end uw us u_13 u_14), u_13, u_14, u_12, u_11, u_24, u_23) hx hb hr hlk dX5_item_114 hS (hP.sub [0, 1, 4, 5, 2, 3] rfl) (hD.sub [0, 1, 4, 5, 2, 3] (by decide) rfl) (by show ((100 : Int32), (0 : Int32), (f_X4_end uw us u_13 u_14), u_13, u_14, u_12, u_11, u_24, u_23) = f_X5_item ce he lo si ti uw us ug up un fur mn fmr k x y z; unfold f_X5_item; rw [if_neg c_1]; rw [if_neg c_4]; rw [if_neg c_7]; rw [if_pos c_10]; rw [← hw_16]; try dsimp only; rw [if_neg c_19]; rw [← hw_26]; try dsimp only; try rfl)
          · refine lv_aload_n hx hb dX5_item_78 rfl (lv_at hl 0 rfl) ?_
            refine va_get (D := D) hx hb hts hiX5 hown hK.1 hP 0 rfl rfl 2 (by decide) (hts (.fieldLink RX5 22 "FencePilot" "incoming" "LFencePilot$Upload;") (by decide +kernel)) (fun _ h9 => h9) rfl dX5_item_79 ?_
            refine kk_cVi (wc := [(ua, .inr (4, [.ref ui, .int uw, .int us, .int u_13, .int u_14])), (ui, .inr (1, [.ref ur, .int u_12]))]) (wr := [(o, .inr (5, [.ref ga, .ref ba, .ref ua, .ref ma, .ref sa, .ref la, .ref pa, .ref wa, .int ce, .int he, .int lo, .int si, .int ti])), (ma, .inr (1, [.ref mr, .int mn])), (mr, .inl (cI, 24, .inl fmr)), (ur, .inl (cI, 24, .inl u_11))]) ⟨hx, hb, hml, hown, hts⟩ hK hP hD hS hA [4, 5] [0, 1, 2, 3] (k_X4_next l D cI cZ ua ui ur H.size uw us u_13 u_14 u_12) (cwV 0 hts gX5_item_X4_next rfl rfl rfl (by decide +kernel) ⟨(Nat.le_of_ble_eq_true rfl), (Nat.le_of_ble_eq_true rfl)⟩) rfl rfl (by decide) (by decide) (by decide) 0 4 rfl rfl rfl rfl hl.1 rfl (Nat.le_of_ble_eq_true rfl) dX5_item_82 ⟨(Nat.le_of_ble_eq_true rfl), (Nat.le_of_ble_eq_true rfl)⟩ (fun r_27 u H locs hw_28 hP hD hS => ?_)
            have hw_28 : (f_X4_next uw us u_13 u_14 u_12) = r_27 := (hw_28 : r_27 = (f_X4_next uw us u_13 u_14 u_12)).symm
            subst hw_28
            have hP : va_P D vwCl [(o, .inr (5, [.ref ga, .ref ba, .ref ua, .ref ma, .ref sa, .ref la, .ref pa, .ref wa, .int ce, .int he, .int lo, .int si, .int ti])), (ma, .inr (1, [.ref mr, .int mn])), (mr, .inl (cI, 24, .inl fmr)), (ur, .inl (cI, 24, .inl u_11)), (ua, .inr (4, [.ref ui, .int uw, .int us, .int u_13, .int u_14])), (ui, .inr (1, [.ref ur, .int u_12]))] H := hP
            have hD : va_D A [(o, .inr (5, [.ref ga, .ref ba, .ref ua, .ref ma, .ref sa, .ref la, .ref pa, .ref wa, .int ce, .int he, .int lo, .int si, .int ti])), (ma, .inr (1, [.ref mr, .int mn])), (mr, .inl (cI, 24, .inl fmr)), (ur, .inl (cI, 24, .inl u_11)), (ua, .inr (4, [.ref ui, .int uw, .int us, .int u_13, .int u_14])), (ui, .inr (1, [.ref ur, .int u_12]))] := hD
            exact kk_ri (he, uw, u_13, u_14, u_12, u_11, mn, fmr) hx hb hr hlk dX5_item_85 hS (hP.sub [0, 4, 5, 3, 1, 2] rfl) (hD.sub [0, 4, 5, 3, 1, 2] (by decide) rfl) (by show ((f_X4_next uw us u_13 u_14 u_12), he, uw, u_13, u_14, u_12, u_11, mn, fmr) = f_X5_item ce he lo si ti uw us ug up un fur mn fmr k x y z; unfold f_X5_item; rw [if_neg c_1]; rw [if_neg c_4]; rw [if_neg c_7]; rw [if_pos c_10]; rw [← hw_16]; try dsimp only; rw [if_pos c_19]; try rfl)
        · refine lv_aload_n hx hb dX5_item_49 rfl (lv_at hl 0 rfl) ?_
          refine va_get (D := D) hx hb hts hiX5 hown hK.1 hP 0 rfl rfl 2 (by decide) (hts (.fieldLink RX5 22 "FencePilot" "incoming" "LFencePilot$Upload;") (by decide +kernel)) (fun _ h9 => h9) rfl dX5_item_50 ?_
          refine kk_cVi (wc := [(ua, .inr (4, [.ref ui, .int uw, .int us, .int ug, .int up])), (ui, .inr (1, [.ref ur, .int un]))]) (wr := [(o, .inr (5, [.ref ga, .ref ba, .ref ua, .ref ma, .ref sa, .ref la, .ref pa, .ref wa, .int ce, .int he, .int lo, .int si, .int ti])), (ur, .inl (cI, 24, .inl fur)), (ma, .inr (1, [.ref mr, .int mn])), (mr, .inl (cI, 24, .inl fmr))]) ⟨hx, hb, hml, hown, hts⟩ hK hP hD hS hA [4, 5] [0, 1, 2, 3] (k_X4_next l D cI cZ ua ui ur H.size uw us ug up un) (cwV 0 hts gX5_item_X4_next rfl rfl rfl (by decide +kernel) ⟨(Nat.le_of_ble_eq_true rfl), (Nat.le_of_ble_eq_true rfl)⟩) rfl rfl (by decide) (by decide) (by decide) 0 4 rfl rfl rfl rfl hl.1 rfl (Nat.le_of_ble_eq_true rfl) dX5_item_53 ⟨(Nat.le_of_ble_eq_true rfl), (Nat.le_of_ble_eq_true rfl)⟩ (fun r_29 u H locs hw_30 hP hD hS => ?_)
          have hw_30 : (f_X4_next uw us ug up un) = r_29 := (hw_30 : r_29 = (f_X4_next uw us ug up un)).symm
          subst hw_30
          have hP : va_P D vwCl [(o, .inr (5, [.ref ga, .ref ba, .ref ua, .ref ma, .ref sa, .ref la, .ref pa, .ref wa, .int ce, .int he, .int lo, .int si, .int ti])), (ur, .inl (cI, 24, .inl fur)), (ma, .inr (1, [.ref mr, .int mn])), (mr, .inl (cI, 24, .inl fmr)), (ua, .inr (4, [.ref ui, .int uw, .int us, .int ug, .int up])), (ui, .inr (1, [.ref ur, .int un]))] H := hP
          have hD : va_D A [(o, .inr (5, [.ref ga, .ref ba, .ref ua, .ref ma, .ref sa, .ref la, .ref pa, .ref wa, .int ce, .int he, .int lo, .int si, .int ti])), (ur, .inl (cI, 24, .inl fur)), (ma, .inr (1, [.ref mr, .int mn])), (mr, .inl (cI, 24, .inl fmr)), (ua, .inr (4, [.ref ui, .int uw, .int us, .int ug, .int up])), (ui, .inr (1, [.ref ur, .int un]))] := hD
          exact kk_ri (he, uw, ug, up, un, fur, mn, fmr) hx hb hr hlk dX5_item_56 hS (hP.sub [0, 4, 5, 1, 2, 3] rfl) (hD.sub [0, 4, 5, 1, 2, 3] (by decide) rfl) (by show ((f_X4_next uw us ug up un), he, uw, ug, up, un, fur, mn, fmr) = f_X5_item ce he lo si ti uw us ug up un fur mn fmr k x y z; unfold f_X5_item; rw [if_neg c_1]; rw [if_neg c_4]; rw [if_neg c_7]; rw [if_neg c_10]; try rfl)
      · refine lv_bipush (v := -5) hx hb dX5_item_35 (by decide) ?_
        exact kk_ri (he, uw, ug, up, un, fur, mn, fmr) hx hb hr hlk dX5_item_37 hS (hP.sub [0, 1, 2, 3, 4, 5] rfl) (hD.sub [0, 1, 2, 3, 4, 5] (by decide) rfl) (by show ((-5 : Int32), he, uw, ug, up, un, fur, mn, fmr) = f_X5_item ce he lo si ti uw us ug up un fur mn fmr k x y z; unfold f_X5_item; rw [if_neg c_1]; rw [if_neg c_4]; rw [if_pos c_7]; try rfl)
  · refine lv_bipush (v := -6) hx hb dX5_item_10 (by decide) ?_
    exact kk_ri (he, uw, ug, up, un, fur, mn, fmr) hx hb hr hlk dX5_item_12 hS (hP.sub [0, 1, 2, 3, 4, 5] rfl) (hD.sub [0, 1, 2, 3, 4, 5] (by decide) rfl) (by show ((-6 : Int32), he, uw, ug, up, un, fur, mn, fmr) = f_X5_item ce he lo si ti uw us ug up un fur mn fmr k x y z; unfold f_X5_item; rw [if_pos c_1]; try rfl)
def f_X5_wanted (ce : Int32) (he : Int32) (lo : Int32) (si : Int32) (ti : Int32) (uw : Int32) (us : Int32) (ug : Int32) (up : Int32) (un : Int32) : Int32 := (if uw = (0 : Int32) then (-6 : Int32) else (f_X4_next uw us ug up un))
set_option maxHeartbeats 4000000 in
set_option maxRecDepth 100000 in
theorem k_X5_wanted (l : Launch) (D : va_G) (cI cZ : ClassId) (o : Nat) (ga : Nat) (ba : Nat) (ua : Nat) (ma : Nat) (sa : Nat) (la : Nat) (pa : Nat) (wa : Nat) (ui : Nat) (ur : Nat) (sz : Nat) (ce : Int32) (he : Int32) (lo : Int32) (si : Int32) (ti : Int32) (uw : Int32) (us : Int32) (ug : Int32) (up : Int32) (un : Int32)   : kk_Mi l D cI cZ yX5_wanted wsX5_wanted ({ frames := 1, cells := 0, slots := 0, locals := 20 } : Room) [.ref o] sz [(o, .inr (5, [.ref ga, .ref ba, .ref ua, .ref ma, .ref sa, .ref la, .ref pa, .ref wa, .int ce, .int he, .int lo, .int si, .int ti])), (ua, .inr (4, [.ref ui, .int uw, .int us, .int ug, .int up])), (ui, .inr (1, [.ref ur, .int un]))] (fun (r : Int32) (_ : Unit) => r = f_X5_wanted ce he lo si ti uw us ug up un) (fun _ => [(o, .inr (5, [.ref ga, .ref ba, .ref ua, .ref ma, .ref sa, .ref la, .ref pa, .ref wa, .int ce, .int he, .int lo, .int si, .int ti])), (ua, .inr (4, [.ref ui, .int uw, .int us, .int ug, .int up])), (ui, .inr (1, [.ref ur, .int un]))]) 0 0 := by
  refine kk_enti (cc := cX5_wanted) (maxL := 1) (ret := (some .int)) (by decide +kernel) rfl (Nat.le_of_ble_eq_true rfl) (fun p e s m args below meth c A ls hX hP hD hS hl => ?_)
  obtain ⟨hx, hb, hml, hown, hts, hr, hlk, hnm, hK, hA⟩ := hX
  have hown : s.vm.findClass RX5 = some m.cls := hown
  have hiX1 : ∀ w ∈ wsX10, w ∈ wsX5_wanted := by decide +kernel
  have hiX4 : ∀ w ∈ wsX40, w ∈ wsX5_wanted := by decide +kernel
  have hiX5 : ∀ w ∈ wsX50, w ∈ wsX5_wanted := by decide +kernel
  have hl : lv_has ls 1 [(0, .ref o)] := hl
  refine lv_aload_n hx hb dX5_wanted_0 rfl (lv_at hl 0 rfl) ?_
  refine va_get (D := D) hx hb hts hiX5 hown hK.1 hP 0 rfl rfl 2 (by decide) (hts (.fieldLink RX5 22 "FencePilot" "incoming" "LFencePilot$Upload;") (by decide +kernel)) (fun _ h9 => h9) rfl dX5_wanted_1 ?_
  refine va_getN (D := D) hx hb hts hiX4 hown hK.1 hP 1 rfl rfl 1 (by decide) (va_Nw.use rfl hK.2.1) (fun _ h9 => h9) rfl dX5_wanted_4 ?_
  refine lv_if_eq (tgt := 20) hx hb dX5_wanted_7 (by decide) (fun c_1 => ?_) (fun c_1 => ?_)
  · refine lv_bipush (v := -6) hx hb dX5_wanted_20 (by decide) ?_
    exact kk_ri () hx hb hr hlk dX5_wanted_22 hS (hP.sub [0, 1, 2] rfl) (hD.sub [0, 1, 2] (by decide) rfl) (by show (-6 : Int32) = f_X5_wanted ce he lo si ti uw us ug up un; unfold f_X5_wanted; rw [if_pos c_1]; try rfl)
  · refine lv_aload_n hx hb dX5_wanted_10 rfl (lv_at hl 0 rfl) ?_
    refine va_get (D := D) hx hb hts hiX5 hown hK.1 hP 0 rfl rfl 2 (by decide) (hts (.fieldLink RX5 22 "FencePilot" "incoming" "LFencePilot$Upload;") (by decide +kernel)) (fun _ h9 => h9) rfl dX5_wanted_11 ?_
    refine kk_cVi (wc := [(ua, .inr (4, [.ref ui, .int uw, .int us, .int ug, .int up])), (ui, .inr (1, [.ref ur, .int un]))]) (wr := [(o, .inr (5, [.ref ga, .ref ba, .ref ua, .ref ma, .ref sa, .ref la, .ref pa, .ref wa, .int ce, .int he, .int lo, .int si, .int ti]))]) ⟨hx, hb, hml, hown, hts⟩ hK hP hD hS hA [1, 2] [0] (k_X4_next l D cI cZ ua ui ur s.heap.size uw us ug up un) (cwV 0 hts gX5_wanted_X4_next rfl rfl rfl (by decide +kernel) ⟨(Nat.le_of_ble_eq_true rfl), (Nat.le_of_ble_eq_true rfl)⟩) rfl rfl (by decide) (by decide) (by decide) 0 4 rfl rfl rfl rfl hl.1 rfl (Nat.le_of_ble_eq_true rfl) dX5_wanted_14 ⟨(Nat.le_of_ble_eq_true rfl), (Nat.le_of_ble_eq_true rfl)⟩ (fun r_2 u H locs hw_3 hP hD hS => ?_)
    have hw_3 : (f_X4_next uw us ug up un) = r_2 := (hw_3 : r_2 = (f_X4_next uw us ug up un)).symm
    subst hw_3
    have hP : va_P D vwCl [(o, .inr (5, [.ref ga, .ref ba, .ref ua, .ref ma, .ref sa, .ref la, .ref pa, .ref wa, .int ce, .int he, .int lo, .int si, .int ti])), (ua, .inr (4, [.ref ui, .int uw, .int us, .int ug, .int up])), (ui, .inr (1, [.ref ur, .int un]))] H := hP
    have hD : va_D A [(o, .inr (5, [.ref ga, .ref ba, .ref ua, .ref ma, .ref sa, .ref la, .ref pa, .ref wa, .int ce, .int he, .int lo, .int si, .int ti])), (ua, .inr (4, [.ref ui, .int uw, .int us, .int ug, .int up])), (ui, .inr (1, [.ref ur, .int un]))] := hD
    refine lv_goto (tgt := 22) hx hb dX5_wanted_17 (by decide) ?_
    exact kk_ri () hx hb hr hlk dX5_wanted_22 hS (hP.sub [0, 1, 2] rfl) (hD.sub [0, 1, 2] (by decide) rfl) (by show (f_X4_next uw us ug up un) = f_X5_wanted ce he lo si ti uw us ug up un; unfold f_X5_wanted; rw [if_neg c_1]; try rfl)
def f_X5_sample (ce : Int32) (he : Int32) (lo : Int32) (si : Int32) (ti : Int32) (fsr : Nat → Int32) (fsf : Nat → Int32) (k : Int32) (x : Int32) (y : Int32) (z : Int32) : Int32 × (Nat → Int32) × (Nat → Int32) := (if (f_X5_isWithin k (0 : Int32) (2 : Int32)) = (0 : Int32) then ((0 : Int32), fsr, fsf) else (if (f_X5_isInSensorReach x y) = (0 : Int32) then ((0 : Int32), fsr, fsf) else (if (f_X5_isWithin z (-2000 : Int32) (20000 : Int32)) = (0 : Int32) then ((0 : Int32), fsr, fsf) else (match (f_X3_take fsr fsf k x y z) with | (u_10, u_11) => ((1 : Int32), u_10, u_11)))))
set_option maxHeartbeats 4000000 in
set_option maxRecDepth 100000 in
theorem k_X5_sample (l : Launch) (D : va_G) (cI cZ : ClassId) (o : Nat) (ga : Nat) (ba : Nat) (ua : Nat) (ma : Nat) (sa : Nat) (la : Nat) (pa : Nat) (wa : Nat) (sr : Nat) (sf : Nat) (sz : Nat) (ce : Int32) (he : Int32) (lo : Int32) (si : Int32) (ti : Int32) (fsr : Nat → Int32) (fsf : Nat → Int32) (k : Int32) (x : Int32) (y : Int32) (z : Int32)  : kk_Mi l D cI cZ yX5_sample wsX5_sample ({ frames := 2, cells := 0, slots := 0, locals := 43 } : Room) [.ref o, .int k, .int x, .int y, .int z] sz [(o, .inr (5, [.ref ga, .ref ba, .ref ua, .ref ma, .ref sa, .ref la, .ref pa, .ref wa, .int ce, .int he, .int lo, .int si, .int ti])), (sa, .inr (3, [.ref sr, .ref sf])), (sr, .inl (cI, 9, .inl fsr)), (sf, .inl (cZ, 3, .inl fsf))] (fun (r : Int32) (u : (Nat → Int32) × (Nat → Int32)) => (r, u) = f_X5_sample ce he lo si ti fsr fsf k x y z) (fun u => [(o, .inr (5, [.ref ga, .ref ba, .ref ua, .ref ma, .ref sa, .ref la, .ref pa, .ref wa, .int ce, .int he, .int lo, .int si, .int ti])), (sa, .inr (3, [.ref sr, .ref sf])), (sr, .inl (cI, 9, .inl u.1)), (sf, .inl (cZ, 3, .inl u.2))]) 0 0 := by
  refine kk_enti (cc := cX5_sample) (maxL := 5) (ret := (some .boolean)) (by decide +kernel) rfl (Nat.le_of_ble_eq_true rfl) (fun p e s m args below meth c A ls hX hP hD hS hl => ?_)
  obtain ⟨hx, hb, hml, hown, hts, hr, hlk, hnm, hK, hA⟩ := hX
  have hown : s.vm.findClass RX5 = some m.cls := hown
  have hiX3 : ∀ w ∈ wsX30, w ∈ wsX5_sample := by decide +kernel
  have hiX5 : ∀ w ∈ wsX50, w ∈ wsX5_sample := by decide +kernel
  have hl : lv_has ls 5 [(0, .ref o), (1, .int k), (2, .int x), (3, .int y), (4, .int z)] := hl
  refine lv_iload_n hx hb dX5_sample_0 rfl (lv_at hl 1 rfl) ?_
  refine lv_iconst (v := 0) hx hb dX5_sample_1 (by decide) ?_
  refine lv_iconst (v := 2) hx hb dX5_sample_2 (by decide) ?_
  refine kk_cSi (wc := []) (wr := [(o, .inr (5, [.ref ga, .ref ba, .ref ua, .ref ma, .ref sa, .ref la, .ref pa, .ref wa, .int ce, .int he, .int lo, .int si, .int ti])), (sa, .inr (3, [.ref sr, .ref sf])), (sr, .inl (cI, 9, .inl fsr)), (sf, .inl (cZ, 3, .inl fsf))]) ⟨hx, hb, hml, hown, hts⟩ hK hP hD hS hA [] [0, 1, 2, 3] (k_X5_isWithin l D cI cZ  s.heap.size k (0 : Int32) (2 : Int32)) (va_cwS 3 hts gX5_sample_X5_isWithin rfl rfl rfl (by decide +kernel) ⟨(Nat.le_of_ble_eq_true rfl), (Nat.le_of_ble_eq_true rfl)⟩) rfl rfl (by decide) (by decide) (by decide) rfl hl.1 rfl (Nat.le_of_ble_eq_true rfl) dX5_sample_3 ⟨(Nat.le_of_ble_eq_true rfl), (Nat.le_of_ble_eq_true rfl)⟩ (fun r_1 u H locs hw_2 hP hD hS => ?_)
  have hw_2 : (f_X5_isWithin k (0 : Int32) (2 : Int32)) = r_1 := (hw_2 : r_1 = (f_X5_isWithin k (0 : Int32) (2 : Int32))).symm
  subst hw_2
  have hP : va_P D vwCl [(o, .inr (5, [.ref ga, .ref ba, .ref ua, .ref ma, .ref sa, .ref la, .ref pa, .ref wa, .int ce, .int he, .int lo, .int si, .int ti])), (sa, .inr (3, [.ref sr, .ref sf])), (sr, .inl (cI, 9, .inl fsr)), (sf, .inl (cZ, 3, .inl fsf))] H := hP
  have hD : va_D A [(o, .inr (5, [.ref ga, .ref ba, .ref ua, .ref ma, .ref sa, .ref la, .ref pa, .ref wa, .int ce, .int he, .int lo, .int si, .int ti])), (sa, .inr (3, [.ref sr, .ref sf])), (sr, .inl (cI, 9, .inl fsr)), (sf, .inl (cZ, 3, .inl fsf))] := hD
  refine lv_if_eq (tgt := 31) hx hb dX5_sample_6 (by decide) (fun c_3 => ?_) (fun c_3 => ?_)
  · refine lv_iconst (v := 0) hx hb dX5_sample_31 (by decide) ?_
    exact kk_rz (fsr, fsf) hx hb hr hlk dX5_sample_32 hS (hP.sub [0, 1, 2, 3] rfl) (hD.sub [0, 1, 2, 3] (by decide) rfl) rfl (by show ((0 : Int32), fsr, fsf) = f_X5_sample ce he lo si ti fsr fsf k x y z; unfold f_X5_sample; rw [if_pos c_3]; try rfl)
  · refine lv_iload_n hx hb dX5_sample_9 rfl (lv_at hl 2 rfl) ?_
    refine lv_iload_n hx hb dX5_sample_10 rfl (lv_at hl 3 rfl) ?_
    refine kk_cSi (wc := []) (wr := [(o, .inr (5, [.ref ga, .ref ba, .ref ua, .ref ma, .ref sa, .ref la, .ref pa, .ref wa, .int ce, .int he, .int lo, .int si, .int ti])), (sa, .inr (3, [.ref sr, .ref sf])), (sr, .inl (cI, 9, .inl fsr)), (sf, .inl (cZ, 3, .inl fsf))]) ⟨hx, hb, hml, hown, hts⟩ hK hP hD hS hA [] [0, 1, 2, 3] (k_X5_isInSensorReach l D cI cZ  H.size x y) (va_cwS 2 hts gX5_sample_X5_isInSensorReach rfl rfl rfl (by decide +kernel) ⟨(Nat.le_of_ble_eq_true rfl), (Nat.le_of_ble_eq_true rfl)⟩) rfl rfl (by decide) (by decide) (by decide) rfl hl.1 rfl (Nat.le_of_ble_eq_true rfl) dX5_sample_11 ⟨(Nat.le_of_ble_eq_true rfl), (Nat.le_of_ble_eq_true rfl)⟩ (fun r_4 u H locs hw_5 hP hD hS => ?_)
    have hw_5 : (f_X5_isInSensorReach x y) = r_4 := (hw_5 : r_4 = (f_X5_isInSensorReach x y)).symm
    subst hw_5
    have hP : va_P D vwCl [(o, .inr (5, [.ref ga, .ref ba, .ref ua, .ref ma, .ref sa, .ref la, .ref pa, .ref wa, .int ce, .int he, .int lo, .int si, .int ti])), (sa, .inr (3, [.ref sr, .ref sf])), (sr, .inl (cI, 9, .inl fsr)), (sf, .inl (cZ, 3, .inl fsf))] H := hP
    have hD : va_D A [(o, .inr (5, [.ref ga, .ref ba, .ref ua, .ref ma, .ref sa, .ref la, .ref pa, .ref wa, .int ce, .int he, .int lo, .int si, .int ti])), (sa, .inr (3, [.ref sr, .ref sf])), (sr, .inl (cI, 9, .inl fsr)), (sf, .inl (cZ, 3, .inl fsf))] := hD
    refine lv_if_eq (tgt := 31) hx hb dX5_sample_14 (by decide) (fun c_6 => ?_) (fun c_6 => ?_)
    · refine lv_iconst (v := 0) hx hb dX5_sample_31 (by decide) ?_
      exact kk_rz (fsr, fsf) hx hb hr hlk dX5_sample_32 hS (hP.sub [0, 1, 2, 3] rfl) (hD.sub [0, 1, 2, 3] (by decide) rfl) rfl (by show ((0 : Int32), fsr, fsf) = f_X5_sample ce he lo si ti fsr fsf k x y z; unfold f_X5_sample; rw [if_neg c_3]; rw [if_pos c_6]; try rfl)
    · refine lv_iload hx hb dX5_sample_17 (lv_at hl 4 rfl) ?_
      refine lv_sipush (v := -2000) hx hb dX5_sample_19 (by decide) ?_
      refine lv_sipush (v := 20000) hx hb dX5_sample_22 (by decide) ?_
      refine kk_cSi (wc := []) (wr := [(o, .inr (5, [.ref ga, .ref ba, .ref ua, .ref ma, .ref sa, .ref la, .ref pa, .ref wa, .int ce, .int he, .int lo, .int si, .int ti])), (sa, .inr (3, [.ref sr, .ref sf])), (sr, .inl (cI, 9, .inl fsr)), (sf, .inl (cZ, 3, .inl fsf))]) ⟨hx, hb, hml, hown, hts⟩ hK hP hD hS hA [] [0, 1, 2, 3] (k_X5_isWithin l D cI cZ  H.size z (-2000 : Int32) (20000 : Int32)) (va_cwS 3 hts gX5_sample_X5_isWithin rfl rfl rfl (by decide +kernel) ⟨(Nat.le_of_ble_eq_true rfl), (Nat.le_of_ble_eq_true rfl)⟩) rfl rfl (by decide) (by decide) (by decide) rfl hl.1 rfl (Nat.le_of_ble_eq_true rfl) dX5_sample_25 ⟨(Nat.le_of_ble_eq_true rfl), (Nat.le_of_ble_eq_true rfl)⟩ (fun r_7 u H locs hw_8 hP hD hS => ?_)
      have hw_8 : (f_X5_isWithin z (-2000 : Int32) (20000 : Int32)) = r_7 := (hw_8 : r_7 = (f_X5_isWithin z (-2000 : Int32) (20000 : Int32))).symm
      subst hw_8
      have hP : va_P D vwCl [(o, .inr (5, [.ref ga, .ref ba, .ref ua, .ref ma, .ref sa, .ref la, .ref pa, .ref wa, .int ce, .int he, .int lo, .int si, .int ti])), (sa, .inr (3, [.ref sr, .ref sf])), (sr, .inl (cI, 9, .inl fsr)), (sf, .inl (cZ, 3, .inl fsf))] H := hP
      have hD : va_D A [(o, .inr (5, [.ref ga, .ref ba, .ref ua, .ref ma, .ref sa, .ref la, .ref pa, .ref wa, .int ce, .int he, .int lo, .int si, .int ti])), (sa, .inr (3, [.ref sr, .ref sf])), (sr, .inl (cI, 9, .inl fsr)), (sf, .inl (cZ, 3, .inl fsf))] := hD
      refine lv_if_ne (tgt := 33) hx hb dX5_sample_28 (by decide) (fun c_9 => ?_) (fun c_9 => ?_)
      · refine lv_aload_n hx hb dX5_sample_33 rfl (lv_at hl 0 rfl) ?_
        refine va_get (D := D) hx hb hts hiX5 hown hK.1 hP 0 rfl rfl 4 (by decide) (hts (.fieldLink RX5 36 "FencePilot" "sensors" "LFencePilot$Sensors;") (by decide +kernel)) (fun _ h9 => h9) rfl dX5_sample_34 ?_
        refine lv_iload_n hx hb dX5_sample_37 rfl (lv_at hl 1 rfl) ?_
        refine lv_iload_n hx hb dX5_sample_38 rfl (lv_at hl 2 rfl) ?_
        refine lv_iload_n hx hb dX5_sample_39 rfl (lv_at hl 3 rfl) ?_
        refine lv_iload hx hb dX5_sample_40 (lv_at hl 4 rfl) ?_
        refine kk_cVv (wc := [(sa, .inr (3, [.ref sr, .ref sf])), (sr, .inl (cI, 9, .inl fsr)), (sf, .inl (cZ, 3, .inl fsf))]) (wr := [(o, .inr (5, [.ref ga, .ref ba, .ref ua, .ref ma, .ref sa, .ref la, .ref pa, .ref wa, .int ce, .int he, .int lo, .int si, .int ti]))]) ⟨hx, hb, hml, hown, hts⟩ hK hP hD hS hA [1, 2, 3] [0] (k_X3_take l D cI cZ sa sr sf H.size fsr fsf k x y z (kk_withinL (b := 2) c_3 rfl (by decide))) (cwV 4 hts gX5_sample_X3_take rfl rfl rfl (by decide +kernel) ⟨(Nat.le_of_ble_eq_true rfl), (Nat.le_of_ble_eq_true rfl)⟩) rfl rfl (by decide) (by decide) (by decide) 0 3 rfl rfl rfl rfl hl.1 rfl (Nat.le_of_ble_eq_true rfl) dX5_sample_42 ⟨(Nat.le_of_ble_eq_true rfl), (Nat.le_of_ble_eq_true rfl)⟩ (fun u H locs hw_13 hP hD hS => ?_)
        obtain ⟨u_10, u_11⟩ := u
        have hw_13 : (u_10, u_11) = (f_X3_take fsr fsf k x y z) := hw_13
        have hP : va_P D vwCl [(o, .inr (5, [.ref ga, .ref ba, .ref ua, .ref ma, .ref sa, .ref la, .ref pa, .ref wa, .int ce, .int he, .int lo, .int si, .int ti])), (sa, .inr (3, [.ref sr, .ref sf])), (sr, .inl (cI, 9, .inl u_10)), (sf, .inl (cZ, 3, .inl u_11))] H := hP
        have hD : va_D A [(o, .inr (5, [.ref ga, .ref ba, .ref ua, .ref ma, .ref sa, .ref la, .ref pa, .ref wa, .int ce, .int he, .int lo, .int si, .int ti])), (sa, .inr (3, [.ref sr, .ref sf])), (sr, .inl (cI, 9, .inl u_10)), (sf, .inl (cZ, 3, .inl u_11))] := hD
        refine lv_iconst (v := 1) hx hb dX5_sample_45 (by decide) ?_
        exact kk_rz (u_10, u_11) hx hb hr hlk dX5_sample_46 hS (hP.sub [0, 1, 2, 3] rfl) (hD.sub [0, 1, 2, 3] (by decide) rfl) rfl (by show ((1 : Int32), u_10, u_11) = f_X5_sample ce he lo si ti fsr fsf k x y z; unfold f_X5_sample; rw [if_neg c_3]; rw [if_neg c_6]; rw [if_neg c_9]; rw [← hw_13]; try dsimp only; try rfl)
      · refine lv_iconst (v := 0) hx hb dX5_sample_31 (by decide) ?_
        exact kk_rz (fsr, fsf) hx hb hr hlk dX5_sample_32 hS (hP.sub [0, 1, 2, 3] rfl) (hD.sub [0, 1, 2, 3] (by decide) rfl) rfl (by show ((0 : Int32), fsr, fsf) = f_X5_sample ce he lo si ti fsr fsf k x y z; unfold f_X5_sample; rw [if_neg c_3]; rw [if_neg c_6]; rw [if_pos c_9]; try rfl)
def f_X5_beat (ce : Int32) (he : Int32) (lo : Int32) (si : Int32) (ti : Int32) : Int32 := (0 : Int32)
set_option maxHeartbeats 4000000 in
set_option maxRecDepth 100000 in
theorem k_X5_beat (l : Launch) (D : va_G) (cI cZ : ClassId) (o : Nat) (ga : Nat) (ba : Nat) (ua : Nat) (ma : Nat) (sa : Nat) (la : Nat) (pa : Nat) (wa : Nat) (sz : Nat) (ce : Int32) (he : Int32) (lo : Int32) (si : Int32) (ti : Int32)   : kk_Mv l D cI cZ yX5_beat wsX5_beat ({ frames := 0, cells := 0, slots := 0, locals := 0 } : Room) [.ref o] sz [(o, .inr (5, [.ref ga, .ref ba, .ref ua, .ref ma, .ref sa, .ref la, .ref pa, .ref wa, .int ce, .int he, .int lo, .int si, .int ti]))] (fun (u : Int32) => u = f_X5_beat ce he lo si ti) (fun u => [(o, .inr (5, [.ref ga, .ref ba, .ref ua, .ref ma, .ref sa, .ref la, .ref pa, .ref wa, .int ce, .int he, .int lo, .int u, .int ti]))]) 0 0 := by
  refine kk_entv (cc := cX5_beat) (maxL := 1) (ret := none) (by decide +kernel) rfl (Nat.le_of_ble_eq_true rfl) (fun p e s m args below meth c A ls hX hP hD hS hl => ?_)
  obtain ⟨hx, hb, hml, hown, hts, hr, hlk, hnm, hK, hA⟩ := hX
  have hown : s.vm.findClass RX5 = some m.cls := hown
  have hiX5 : ∀ w ∈ wsX50, w ∈ wsX5_beat := by decide +kernel
  have hl : lv_has ls 1 [(0, .ref o)] := hl
  refine lv_aload_n hx hb dX5_beat_0 rfl (lv_at hl 0 rfl) ?_
  refine lv_iconst (v := 0) hx hb dX5_beat_1 (by decide) ?_
  refine va_put (D := D) (ci := 5) (v := .int (0 : Int32)) (ty := .int) (C := RX5) (T := TX5) (N := 13) hx hb hts hiX5 tyX5 tyX5_ok nmX5 hown hK.1 hP hD hS 0 rfl rfl 11 (by decide) (hts (.fieldLink RX5 64 "FencePilot" "silentTicks" "I") (by decide +kernel)) (fun _ h9 => h9) rfl (by decide +kernel) rfl rfl (Nat.le_of_ble_eq_true rfl) dX5_beat_2 (fun H locs hP hD hS => ?_)
  have hP : va_P D vwCl [(o, .inr (5, [.ref ga, .ref ba, .ref ua, .ref ma, .ref sa, .ref la, .ref pa, .ref wa, .int ce, .int he, .int lo, .int (0 : Int32), .int ti]))] H := hP
  have hD : va_D A [(o, .inr (5, [.ref ga, .ref ba, .ref ua, .ref ma, .ref sa, .ref la, .ref pa, .ref wa, .int ce, .int he, .int lo, .int (0 : Int32), .int ti]))] := hD
  exact kk_rv (0 : Int32) hx hb hr hlk dX5_beat_5 hS (hP.sub [0] rfl) (hD.sub [0] (by decide) rfl) (by show (0 : Int32) = f_X5_beat ce he lo si ti; unfold f_X5_beat; rfl)
def f_X5_arm (ce : Int32) (he : Int32) (lo : Int32) (si : Int32) (ti : Int32) (bn : Int32) (fbx : Nat → Int32) (fby : Nat → Int32) (lm : Int32) (lf : Int32) (flc : Nat → Int32) (fpl : Nat → Int32) : Int32 × (Nat → Int32) × Int32 × Int32 := (if lm = (0 : Int32) then (if (f_X0_areEnough bn) = (0 : Int32) then ((-7 : Int32), flc, lm, lf) else (if (0 : Int32) < lo then ((-8 : Int32), flc, lm, lf) else (if (f_X0_leaveClear bn fbx fby (fpl (0 : Int32).toNatClampNeg) (fpl (1 : Int32).toNatClampNeg) (200 : Int32)) = (0 : Int32) then ((-8 : Int32), flc, lm, lf) else (match (f_X2_enter lm lf flc (1 : Int32) ti) with | (u_9, u_10, u_11) => ((0 : Int32), u_9, u_10, u_11))))) else ((-1 : Int32), flc, lm, lf))
set_option maxHeartbeats 4000000 in
set_option maxRecDepth 100000 in
theorem k_X5_arm (l : Launch) (D : va_G) (cI cZ : ClassId) (o : Nat) (ga : Nat) (ba : Nat) (ua : Nat) (ma : Nat) (sa : Nat) (la : Nat) (pa : Nat) (wa : Nat) (bqx : Nat) (bqy : Nat) (lc : Nat) (sz : Nat) (ce : Int32) (he : Int32) (lo : Int32) (si : Int32) (ti : Int32) (bn : Int32) (fbx : Nat → Int32) (fby : Nat → Int32) (lm : Int32) (lf : Int32) (flc : Nat → Int32) (fpl : Nat → Int32)  (hbn : kk_L bn 8) : kk_Mi l D cI cZ yX5_arm wsX5_arm ({ frames := 4, cells := 0, slots := 0, locals := 99 } : Room) [.ref o] sz [(o, .inr (5, [.ref ga, .ref ba, .ref ua, .ref ma, .ref sa, .ref la, .ref pa, .ref wa, .int ce, .int he, .int lo, .int si, .int ti])), (ba, .inr (0, [.ref bqx, .ref bqy, .int bn])), (bqx, .inl (cI, 8, .inl fbx)), (bqy, .inl (cI, 8, .inl fby)), (la, .inr (2, [.ref lc, .int lm, .int lf])), (lc, .inl (cI, 16, .inl flc)), (pa, .inl (cI, 3, .inl fpl))] (fun (r : Int32) (u : (Nat → Int32) × Int32 × Int32) => (r, u) = f_X5_arm ce he lo si ti bn fbx fby lm lf flc fpl) (fun u => [(o, .inr (5, [.ref ga, .ref ba, .ref ua, .ref ma, .ref sa, .ref la, .ref pa, .ref wa, .int ce, .int he, .int lo, .int si, .int ti])), (ba, .inr (0, [.ref bqx, .ref bqy, .int bn])), (bqx, .inl (cI, 8, .inl fbx)), (bqy, .inl (cI, 8, .inl fby)), (la, .inr (2, [.ref lc, .int u.2.1, .int u.2.2])), (lc, .inl (cI, 16, .inl u.1)), (pa, .inl (cI, 3, .inl fpl))]) 0 0 := by
  refine kk_enti (cc := cX5_arm) (maxL := 1) (ret := (some .int)) (by decide +kernel) rfl (Nat.le_of_ble_eq_true rfl) (fun p e s m args below meth c A ls hX hP hD hS hl => ?_)
  obtain ⟨hx, hb, hml, hown, hts, hr, hlk, hnm, hK, hA⟩ := hX
  have hown : s.vm.findClass RX5 = some m.cls := hown
  have hiX0 : ∀ w ∈ wsX00, w ∈ wsX5_arm := by decide +kernel
  have hiX2 : ∀ w ∈ wsX20, w ∈ wsX5_arm := by decide +kernel
  have hiX5 : ∀ w ∈ wsX50, w ∈ wsX5_arm := by decide +kernel
  have hl : lv_has ls 1 [(0, .ref o)] := hl
  refine lv_aload_n hx hb dX5_arm_0 rfl (lv_at hl 0 rfl) ?_
  refine va_get (D := D) hx hb hts hiX5 hown hK.1 hP 0 rfl rfl 5 (by decide) (hts (.fieldLink RX5 43 "FencePilot" "modes" "LFencePilot$ModeLog;") (by decide +kernel)) (fun _ h9 => h9) rfl dX5_arm_1 ?_
  refine va_getN (D := D) hx hb hts hiX2 hown hK.1 hP 4 rfl rfl 1 (by decide) (va_Nw.use rfl hK.2.2.2.2.2.2.1) (fun _ h9 => h9) rfl dX5_arm_4 ?_
  refine lv_if_eq (tgt := 12) hx hb dX5_arm_7 (by decide) (fun c_1 => ?_) (fun c_1 => ?_)
  · refine lv_aload_n hx hb dX5_arm_12 rfl (lv_at hl 0 rfl) ?_
    refine va_get (D := D) hx hb hts hiX5 hown hK.1 hP 0 rfl rfl 1 (by decide) (hts (.fieldLink RX5 16 "FencePilot" "bounds" "LFencePilot$Corners;") (by decide +kernel)) (fun _ h9 => h9) rfl dX5_arm_13 ?_
    refine kk_cVi (wc := [(ba, .inr (0, [.ref bqx, .ref bqy, .int bn]))]) (wr := [(o, .inr (5, [.ref ga, .ref ba, .ref ua, .ref ma, .ref sa, .ref la, .ref pa, .ref wa, .int ce, .int he, .int lo, .int si, .int ti])), (bqx, .inl (cI, 8, .inl fbx)), (bqy, .inl (cI, 8, .inl fby)), (la, .inr (2, [.ref lc, .int lm, .int lf])), (lc, .inl (cI, 16, .inl flc)), (pa, .inl (cI, 3, .inl fpl))]) ⟨hx, hb, hml, hown, hts⟩ hK hP hD hS hA [1] [0, 2, 3, 4, 5, 6] (k_X0_areEnough l D cI cZ ba bqx bqy s.heap.size bn) (cwV 0 hts gX5_arm_X0_areEnough rfl rfl rfl (by decide +kernel) ⟨(Nat.le_of_ble_eq_true rfl), (Nat.le_of_ble_eq_true rfl)⟩) rfl rfl (by decide) (by decide) (by decide) 0 0 rfl rfl rfl rfl hl.1 rfl (Nat.le_of_ble_eq_true rfl) dX5_arm_16 ⟨(Nat.le_of_ble_eq_true rfl), (Nat.le_of_ble_eq_true rfl)⟩ (fun r_2 u H locs hw_3 hP hD hS => ?_)
    have hw_3 : (f_X0_areEnough bn) = r_2 := (hw_3 : r_2 = (f_X0_areEnough bn)).symm
    subst hw_3
    have hP : va_P D vwCl [(o, .inr (5, [.ref ga, .ref ba, .ref ua, .ref ma, .ref sa, .ref la, .ref pa, .ref wa, .int ce, .int he, .int lo, .int si, .int ti])), (bqx, .inl (cI, 8, .inl fbx)), (bqy, .inl (cI, 8, .inl fby)), (la, .inr (2, [.ref lc, .int lm, .int lf])), (lc, .inl (cI, 16, .inl flc)), (pa, .inl (cI, 3, .inl fpl)), (ba, .inr (0, [.ref bqx, .ref bqy, .int bn]))] H := hP
    have hD : va_D A [(o, .inr (5, [.ref ga, .ref ba, .ref ua, .ref ma, .ref sa, .ref la, .ref pa, .ref wa, .int ce, .int he, .int lo, .int si, .int ti])), (bqx, .inl (cI, 8, .inl fbx)), (bqy, .inl (cI, 8, .inl fby)), (la, .inr (2, [.ref lc, .int lm, .int lf])), (lc, .inl (cI, 16, .inl flc)), (pa, .inl (cI, 3, .inl fpl)), (ba, .inr (0, [.ref bqx, .ref bqy, .int bn]))] := hD
    refine lv_if_ne (tgt := 25) hx hb dX5_arm_19 (by decide) (fun c_4 => ?_) (fun c_4 => ?_)
    · refine lv_aload_n hx hb dX5_arm_25 rfl (lv_at hl 0 rfl) ?_
      refine va_get (D := D) hx hb hts hiX5 hown hK.1 hP 0 rfl rfl 10 (by decide) (hts (.fieldLink RX5 61 "FencePilot" "lostTicks" "I") (by decide +kernel)) (fun _ h9 => h9) rfl dX5_arm_26 ?_
      refine lv_if_gt (tgt := 57) hx hb dX5_arm_29 (by decide) (fun c_5 => ?_) (fun c_5 => ?_)
      · refine lv_bipush (v := -8) hx hb dX5_arm_57 (by decide) ?_
        exact kk_ri (flc, lm, lf) hx hb hr hlk dX5_arm_59 hS (hP.sub [0, 6, 1, 2, 3, 4, 5] rfl) (hD.sub [0, 6, 1, 2, 3, 4, 5] (by decide) rfl) (by show ((-8 : Int32), flc, lm, lf) = f_X5_arm ce he lo si ti bn fbx fby lm lf flc fpl; unfold f_X5_arm; rw [if_pos c_1]; rw [if_neg c_4]; rw [if_pos c_5]; try rfl)
      · refine lv_aload_n hx hb dX5_arm_32 rfl (lv_at hl 0 rfl) ?_
        refine va_get (D := D) hx hb hts hiX5 hown hK.1 hP 0 rfl rfl 1 (by decide) (hts (.fieldLink RX5 16 "FencePilot" "bounds" "LFencePilot$Corners;") (by decide +kernel)) (fun _ h9 => h9) rfl dX5_arm_33 ?_
        refine lv_aload_n hx hb dX5_arm_36 rfl (lv_at hl 0 rfl) ?_
        refine va_get (D := D) hx hb hts hiX5 hown hK.1 hP 0 rfl rfl 6 (by decide) (hts (.fieldLink RX5 47 "FencePilot" "place" "[I") (by decide +kernel)) (fun _ h9 => h9) rfl dX5_arm_37 ?_
        refine lv_iconst (v := 0) hx hb dX5_arm_40 (by decide) ?_
        refine va_iald hx hb hK.1 hP 5 0 rfl rfl (by unfold vp_in; decide) dX5_arm_41 ?_
        refine lv_aload_n hx hb dX5_arm_42 rfl (lv_at hl 0 rfl) ?_
        refine va_get (D := D) hx hb hts hiX5 hown hK.1 hP 0 rfl rfl 6 (by decide) (hts (.fieldLink RX5 47 "FencePilot" "place" "[I") (by decide +kernel)) (fun _ h9 => h9) rfl dX5_arm_43 ?_
        refine lv_iconst (v := 1) hx hb dX5_arm_46 (by decide) ?_
        refine va_iald hx hb hK.1 hP 5 0 rfl rfl (by unfold vp_in; decide) dX5_arm_47 ?_
        refine lv_sipush (v := 200) hx hb dX5_arm_48 (by decide) ?_
        refine kk_cVi (wc := [(ba, .inr (0, [.ref bqx, .ref bqy, .int bn])), (bqx, .inl (cI, 8, .inl fbx)), (bqy, .inl (cI, 8, .inl fby))]) (wr := [(o, .inr (5, [.ref ga, .ref ba, .ref ua, .ref ma, .ref sa, .ref la, .ref pa, .ref wa, .int ce, .int he, .int lo, .int si, .int ti])), (la, .inr (2, [.ref lc, .int lm, .int lf])), (lc, .inl (cI, 16, .inl flc)), (pa, .inl (cI, 3, .inl fpl))]) ⟨hx, hb, hml, hown, hts⟩ hK hP hD hS hA [6, 1, 2] [0, 3, 4, 5] (k_X0_leaveClear l D cI cZ ba bqx bqy H.size bn fbx fby (fpl (0 : Int32).toNatClampNeg) (fpl (1 : Int32).toNatClampNeg) (200 : Int32) (by assumption)) (cwV 3 hts gX5_arm_X0_leaveClear rfl rfl rfl (by decide +kernel) ⟨(Nat.le_of_ble_eq_true rfl), (Nat.le_of_ble_eq_true rfl)⟩) rfl rfl (by decide) (by decide) (by decide) 0 0 rfl rfl rfl rfl hl.1 rfl (Nat.le_of_ble_eq_true rfl) dX5_arm_51 ⟨(Nat.le_of_ble_eq_true rfl), (Nat.le_of_ble_eq_true rfl)⟩ (fun r_6 u H locs hw_7 hP hD hS => ?_)
        have hw_7 : (f_X0_leaveClear bn fbx fby (fpl (0 : Int32).toNatClampNeg) (fpl (1 : Int32).toNatClampNeg) (200 : Int32)) = r_6 := (hw_7 : r_6 = (f_X0_leaveClear bn fbx fby (fpl (0 : Int32).toNatClampNeg) (fpl (1 : Int32).toNatClampNeg) (200 : Int32))).symm
        subst hw_7
        have hP : va_P D vwCl [(o, .inr (5, [.ref ga, .ref ba, .ref ua, .ref ma, .ref sa, .ref la, .ref pa, .ref wa, .int ce, .int he, .int lo, .int si, .int ti])), (la, .inr (2, [.ref lc, .int lm, .int lf])), (lc, .inl (cI, 16, .inl flc)), (pa, .inl (cI, 3, .inl fpl)), (ba, .inr (0, [.ref bqx, .ref bqy, .int bn])), (bqx, .inl (cI, 8, .inl fbx)), (bqy, .inl (cI, 8, .inl fby))] H := hP
        have hD : va_D A [(o, .inr (5, [.ref ga, .ref ba, .ref ua, .ref ma, .ref sa, .ref la, .ref pa, .ref wa, .int ce, .int he, .int lo, .int si, .int ti])), (la, .inr (2, [.ref lc, .int lm, .int lf])), (lc, .inl (cI, 16, .inl flc)), (pa, .inl (cI, 3, .inl fpl)), (ba, .inr (0, [.ref bqx, .ref bqy, .int bn])), (bqx, .inl (cI, 8, .inl fbx)), (bqy, .inl (cI, 8, .inl fby))] := hD
        refine lv_if_ne (tgt := 60) hx hb dX5_arm_54 (by decide) (fun c_8 => ?_) (fun c_8 => ?_)
        · refine lv_aload_n hx hb dX5_arm_60 rfl (lv_at hl 0 rfl) ?_
          refine va_get (D := D) hx hb hts hiX5 hown hK.1 hP 0 rfl rfl 5 (by decide) (hts (.fieldLink RX5 43 "FencePilot" "modes" "LFencePilot$ModeLog;") (by decide +kernel)) (fun _ h9 => h9) rfl dX5_arm_61 ?_
          refine lv_iconst (v := 1) hx hb dX5_arm_64 (by decide) ?_
          refine lv_aload_n hx hb dX5_arm_65 rfl (lv_at hl 0 rfl) ?_
          refine va_get (D := D) hx hb hts hiX5 hown hK.1 hP 0 rfl rfl 12 (by decide) (hts (.fieldLink RX5 67 "FencePilot" "ticks" "I") (by decide +kernel)) (fun _ h9 => h9) rfl dX5_arm_66 ?_
          refine kk_cVv (wc := [(la, .inr (2, [.ref lc, .int lm, .int lf])), (lc, .inl (cI, 16, .inl flc))]) (wr := [(o, .inr (5, [.ref ga, .ref ba, .ref ua, .ref ma, .ref sa, .ref la, .ref pa, .ref wa, .int ce, .int he, .int lo, .int si, .int ti])), (pa, .inl (cI, 3, .inl fpl)), (ba, .inr (0, [.ref bqx, .ref bqy, .int bn])), (bqx, .inl (cI, 8, .inl fbx)), (bqy, .inl (cI, 8, .inl fby))]) ⟨hx, hb, hml, hown, hts⟩ hK hP hD hS hA [1, 2] [0, 3, 4, 5, 6] (k_X2_enter l D cI cZ la lc H.size lm lf flc (1 : Int32) ti) (cwV 2 hts gX5_arm_X2_enter rfl rfl rfl (by decide +kernel) ⟨(Nat.le_of_ble_eq_true rfl), (Nat.le_of_ble_eq_true rfl)⟩) rfl rfl (by decide) (by decide) (by decide) 0 2 rfl rfl rfl rfl hl.1 rfl (Nat.le_of_ble_eq_true rfl) dX5_arm_69 ⟨(Nat.le_of_ble_eq_true rfl), (Nat.le_of_ble_eq_true rfl)⟩ (fun u H locs hw_13 hP hD hS => ?_)
          obtain ⟨u_9, u_10, u_11⟩ := u
          have hw_13 : (u_9, u_10, u_11) = (f_X2_enter lm lf flc (1 : Int32) ti) := hw_13
          have hP : va_P D vwCl [(o, .inr (5, [.ref ga, .ref ba, .ref ua, .ref ma, .ref sa, .ref la, .ref pa, .ref wa, .int ce, .int he, .int lo, .int si, .int ti])), (pa, .inl (cI, 3, .inl fpl)), (ba, .inr (0, [.ref bqx, .ref bqy, .int bn])), (bqx, .inl (cI, 8, .inl fbx)), (bqy, .inl (cI, 8, .inl fby)), (la, .inr (2, [.ref lc, .int u_10, .int u_11])), (lc, .inl (cI, 16, .inl u_9))] H := hP
          have hD : va_D A [(o, .inr (5, [.ref ga, .ref ba, .ref ua, .ref ma, .ref sa, .ref la, .ref pa, .ref wa, .int ce, .int he, .int lo, .int si, .int ti])), (pa, .inl (cI, 3, .inl fpl)), (ba, .inr (0, [.ref bqx, .ref bqy, .int bn])), (bqx, .inl (cI, 8, .inl fbx)), (bqy, .inl (cI, 8, .inl fby)), (la, .inr (2, [.ref lc, .int u_10, .int u_11])), (lc, .inl (cI, 16, .inl u_9))] := hD
          refine lv_iconst (v := 0) hx hb dX5_arm_72 (by decide) ?_
          exact kk_ri (u_9, u_10, u_11) hx hb hr hlk dX5_arm_73 hS (hP.sub [0, 2, 3, 4, 5, 6, 1] rfl) (hD.sub [0, 2, 3, 4, 5, 6, 1] (by decide) rfl) (by show ((0 : Int32), u_9, u_10, u_11) = f_X5_arm ce he lo si ti bn fbx fby lm lf flc fpl; unfold f_X5_arm; rw [if_pos c_1]; rw [if_neg c_4]; rw [if_neg c_5]; rw [if_neg c_8]; rw [← hw_13]; try dsimp only; try rfl)
        · refine lv_bipush (v := -8) hx hb dX5_arm_57 (by decide) ?_
          exact kk_ri (flc, lm, lf) hx hb hr hlk dX5_arm_59 hS (hP.sub [0, 4, 5, 6, 1, 2, 3] rfl) (hD.sub [0, 4, 5, 6, 1, 2, 3] (by decide) rfl) (by show ((-8 : Int32), flc, lm, lf) = f_X5_arm ce he lo si ti bn fbx fby lm lf flc fpl; unfold f_X5_arm; rw [if_pos c_1]; rw [if_neg c_4]; rw [if_neg c_5]; rw [if_pos c_8]; try rfl)
    · refine lv_bipush (v := -7) hx hb dX5_arm_22 (by decide) ?_
      exact kk_ri (flc, lm, lf) hx hb hr hlk dX5_arm_24 hS (hP.sub [0, 6, 1, 2, 3, 4, 5] rfl) (hD.sub [0, 6, 1, 2, 3, 4, 5] (by decide) rfl) (by show ((-7 : Int32), flc, lm, lf) = f_X5_arm ce he lo si ti bn fbx fby lm lf flc fpl; unfold f_X5_arm; rw [if_pos c_1]; rw [if_pos c_4]; try rfl)
  · refine lv_iconst (v := -1) hx hb dX5_arm_10 (by decide) ?_
    exact kk_ri (flc, lm, lf) hx hb hr hlk dX5_arm_11 hS (hP.sub [0, 1, 2, 3, 4, 5, 6] rfl) (hD.sub [0, 1, 2, 3, 4, 5, 6] (by decide) rfl) (by show ((-1 : Int32), flc, lm, lf) = f_X5_arm ce he lo si ti bn fbx fby lm lf flc fpl; unfold f_X5_arm; rw [if_neg c_1]; try rfl)
def f_X5_command (ce : Int32) (he : Int32) (lo : Int32) (si : Int32) (ti : Int32) (mn : Int32) (lm : Int32) (lf : Int32) (flc : Nat → Int32) (md : Int32) : Int32 × (Nat → Int32) × Int32 × Int32 := (if (f_X5_isWithin md (2 : Int32) (5 : Int32)) = (0 : Int32) then ((-5 : Int32), flc, lm, lf) else (if lm = (0 : Int32) then ((-9 : Int32), flc, lm, lf) else (if lf = (0 : Int32) then (if lm = (1 : Int32) then (if md = (2 : Int32) then ((-10 : Int32), flc, lm, lf) else (match (f_X2_enter lm lf flc md ti) with | (u_22, u_23, u_24) => ((0 : Int32), u_22, u_23, u_24))) else (if md = (2 : Int32) then (if (f_X1_isEmpty mn) = (0 : Int32) then (match (f_X2_enter lm lf flc md ti) with | (u_16, u_17, u_18) => ((0 : Int32), u_16, u_17, u_18)) else ((-11 : Int32), flc, lm, lf)) else (match (f_X2_enter lm lf flc md ti) with | (u_8, u_9, u_10) => ((0 : Int32), u_8, u_9, u_10)))) else ((-10 : Int32), flc, lm, lf))))
set_option maxHeartbeats 4000000 in
set_option maxRecDepth 100000 in
theorem k_X5_command (l : Launch) (D : va_G) (cI cZ : ClassId) (o : Nat) (ga : Nat) (ba : Nat) (ua : Nat) (ma : Nat) (sa : Nat) (la : Nat) (pa : Nat) (wa : Nat) (mr : Nat) (lc : Nat) (sz : Nat) (ce : Int32) (he : Int32) (lo : Int32) (si : Int32) (ti : Int32) (mn : Int32) (lm : Int32) (lf : Int32) (flc : Nat → Int32) (md : Int32)  : kk_Mi l D cI cZ yX5_command wsX5_command ({ frames := 1, cells := 0, slots := 0, locals := 23 } : Room) [.ref o, .int md] sz [(o, .inr (5, [.ref ga, .ref ba, .ref ua, .ref ma, .ref sa, .ref la, .ref pa, .ref wa, .int ce, .int he, .int lo, .int si, .int ti])), (ma, .inr (1, [.ref mr, .int mn])), (la, .inr (2, [.ref lc, .int lm, .int lf])), (lc, .inl (cI, 16, .inl flc))] (fun (r : Int32) (u : (Nat → Int32) × Int32 × Int32) => (r, u) = f_X5_command ce he lo si ti mn lm lf flc md) (fun u => [(o, .inr (5, [.ref ga, .ref ba, .ref ua, .ref ma, .ref sa, .ref la, .ref pa, .ref wa, .int ce, .int he, .int lo, .int si, .int ti])), (ma, .inr (1, [.ref mr, .int mn])), (la, .inr (2, [.ref lc, .int u.2.1, .int u.2.2])), (lc, .inl (cI, 16, .inl u.1))]) 0 0 := by
  refine kk_enti (cc := cX5_command) (maxL := 2) (ret := (some .int)) (by decide +kernel) rfl (Nat.le_of_ble_eq_true rfl) (fun p e s m args below meth c A ls hX hP hD hS hl => ?_)
  obtain ⟨hx, hb, hml, hown, hts, hr, hlk, hnm, hK, hA⟩ := hX
  have hown : s.vm.findClass RX5 = some m.cls := hown
  have hiX1 : ∀ w ∈ wsX10, w ∈ wsX5_command := by decide +kernel
  have hiX2 : ∀ w ∈ wsX20, w ∈ wsX5_command := by decide +kernel
  have hiX5 : ∀ w ∈ wsX50, w ∈ wsX5_command := by decide +kernel
  have hl : lv_has ls 2 [(0, .ref o), (1, .int md)] := hl
  refine lv_iload_n hx hb dX5_command_0 rfl (lv_at hl 1 rfl) ?_
  refine lv_iconst (v := 2) hx hb dX5_command_1 (by decide) ?_
  refine lv_iconst (v := 5) hx hb dX5_command_2 (by decide) ?_
  refine kk_cSi (wc := []) (wr := [(o, .inr (5, [.ref ga, .ref ba, .ref ua, .ref ma, .ref sa, .ref la, .ref pa, .ref wa, .int ce, .int he, .int lo, .int si, .int ti])), (ma, .inr (1, [.ref mr, .int mn])), (la, .inr (2, [.ref lc, .int lm, .int lf])), (lc, .inl (cI, 16, .inl flc))]) ⟨hx, hb, hml, hown, hts⟩ hK hP hD hS hA [] [0, 1, 2, 3] (k_X5_isWithin l D cI cZ  s.heap.size md (2 : Int32) (5 : Int32)) (va_cwS 3 hts gX5_command_X5_isWithin rfl rfl rfl (by decide +kernel) ⟨(Nat.le_of_ble_eq_true rfl), (Nat.le_of_ble_eq_true rfl)⟩) rfl rfl (by decide) (by decide) (by decide) rfl hl.1 rfl (Nat.le_of_ble_eq_true rfl) dX5_command_3 ⟨(Nat.le_of_ble_eq_true rfl), (Nat.le_of_ble_eq_true rfl)⟩ (fun r_1 u H locs hw_2 hP hD hS => ?_)
  have hw_2 : (f_X5_isWithin md (2 : Int32) (5 : Int32)) = r_1 := (hw_2 : r_1 = (f_X5_isWithin md (2 : Int32) (5 : Int32))).symm
  subst hw_2
  have hP : va_P D vwCl [(o, .inr (5, [.ref ga, .ref ba, .ref ua, .ref ma, .ref sa, .ref la, .ref pa, .ref wa, .int ce, .int he, .int lo, .int si, .int ti])), (ma, .inr (1, [.ref mr, .int mn])), (la, .inr (2, [.ref lc, .int lm, .int lf])), (lc, .inl (cI, 16, .inl flc))] H := hP
  have hD : va_D A [(o, .inr (5, [.ref ga, .ref ba, .ref ua, .ref ma, .ref sa, .ref la, .ref pa, .ref wa, .int ce, .int he, .int lo, .int si, .int ti])), (ma, .inr (1, [.ref mr, .int mn])), (la, .inr (2, [.ref lc, .int lm, .int lf])), (lc, .inl (cI, 16, .inl flc))] := hD
  refine lv_if_ne (tgt := 12) hx hb dX5_command_6 (by decide) (fun c_3 => ?_) (fun c_3 => ?_)
  · refine lv_aload_n hx hb dX5_command_12 rfl (lv_at hl 0 rfl) ?_
    refine va_get (D := D) hx hb hts hiX5 hown hK.1 hP 0 rfl rfl 5 (by decide) (hts (.fieldLink RX5 43 "FencePilot" "modes" "LFencePilot$ModeLog;") (by decide +kernel)) (fun _ h9 => h9) rfl dX5_command_13 ?_
    refine va_getN (D := D) hx hb hts hiX2 hown hK.1 hP 2 rfl rfl 1 (by decide) (va_Nw.use rfl hK.2.2.2.2.2.2.1) (fun _ h9 => h9) rfl dX5_command_16 ?_
    refine lv_if_ne (tgt := 25) hx hb dX5_command_19 (by decide) (fun c_4 => ?_) (fun c_4 => ?_)
    · refine lv_aload_n hx hb dX5_command_25 rfl (lv_at hl 0 rfl) ?_
      refine va_get (D := D) hx hb hts hiX5 hown hK.1 hP 0 rfl rfl 5 (by decide) (hts (.fieldLink RX5 43 "FencePilot" "modes" "LFencePilot$ModeLog;") (by decide +kernel)) (fun _ h9 => h9) rfl dX5_command_26 ?_
      refine va_getN (D := D) hx hb hts hiX2 hown hK.1 hP 2 rfl rfl 2 (by decide) (va_Nw.use rfl hK.2.2.2.1) (fun _ h9 => h9) rfl dX5_command_29 ?_
      refine lv_if_ne (tgt := 51) hx hb dX5_command_32 (by decide) (fun c_5 => ?_) (fun c_5 => ?_)
      · refine lv_bipush (v := -10) hx hb dX5_command_51 (by decide) ?_
        exact kk_ri (flc, lm, lf) hx hb hr hlk dX5_command_53 hS (hP.sub [0, 1, 2, 3] rfl) (hD.sub [0, 1, 2, 3] (by decide) rfl) (by show ((-10 : Int32), flc, lm, lf) = f_X5_command ce he lo si ti mn lm lf flc md; unfold f_X5_command; rw [if_neg c_3]; rw [if_neg c_4]; rw [if_neg c_5]; try rfl)
      · refine lv_aload_n hx hb dX5_command_35 rfl (lv_at hl 0 rfl) ?_
        refine va_get (D := D) hx hb hts hiX5 hown hK.1 hP 0 rfl rfl 5 (by decide) (hts (.fieldLink RX5 43 "FencePilot" "modes" "LFencePilot$ModeLog;") (by decide +kernel)) (fun _ h9 => h9) rfl dX5_command_36 ?_
        refine va_getN (D := D) hx hb hts hiX2 hown hK.1 hP 2 rfl rfl 1 (by decide) (va_Nw.use rfl hK.2.2.2.2.2.2.1) (fun _ h9 => h9) rfl dX5_command_39 ?_
        refine lv_iconst (v := 1) hx hb dX5_command_42 (by decide) ?_
        refine lv_icmp_ne (tgt := 54) hx hb dX5_command_43 (by decide) (fun c_6 => ?_) (fun c_6 => ?_)
        · refine lv_iload_n hx hb dX5_command_54 rfl (lv_at hl 1 rfl) ?_
          refine lv_iconst (v := 2) hx hb dX5_command_55 (by decide) ?_
          refine lv_icmp_ne (tgt := 72) hx hb dX5_command_56 (by decide) (fun c_7 => ?_) (fun c_7 => ?_)
          · refine lv_aload_n hx hb dX5_command_72 rfl (lv_at hl 0 rfl) ?_
            refine va_get (D := D) hx hb hts hiX5 hown hK.1 hP 0 rfl rfl 5 (by decide) (hts (.fieldLink RX5 43 "FencePilot" "modes" "LFencePilot$ModeLog;") (by decide +kernel)) (fun _ h9 => h9) rfl dX5_command_73 ?_
            refine lv_iload_n hx hb dX5_command_76 rfl (lv_at hl 1 rfl) ?_
            refine lv_aload_n hx hb dX5_command_77 rfl (lv_at hl 0 rfl) ?_
            refine va_get (D := D) hx hb hts hiX5 hown hK.1 hP 0 rfl rfl 12 (by decide) (hts (.fieldLink RX5 67 "FencePilot" "ticks" "I") (by decide +kernel)) (fun _ h9 => h9) rfl dX5_command_78 ?_
            refine kk_cVv (wc := [(la, .inr (2, [.ref lc, .int lm, .int lf])), (lc, .inl (cI, 16, .inl flc))]) (wr := [(o, .inr (5, [.ref ga, .ref ba, .ref ua, .ref ma, .ref sa, .ref la, .ref pa, .ref wa, .int ce, .int he, .int lo, .int si, .int ti])), (ma, .inr (1, [.ref mr, .int mn]))]) ⟨hx, hb, hml, hown, hts⟩ hK hP hD hS hA [2, 3] [0, 1] (k_X2_enter l D cI cZ la lc H.size lm lf flc md ti) (cwV 2 hts gX5_command_X2_enter rfl rfl rfl (by decide +kernel) ⟨(Nat.le_of_ble_eq_true rfl), (Nat.le_of_ble_eq_true rfl)⟩) rfl rfl (by decide) (by decide) (by decide) 0 2 rfl rfl rfl rfl hl.1 rfl (Nat.le_of_ble_eq_true rfl) dX5_command_81 ⟨(Nat.le_of_ble_eq_true rfl), (Nat.le_of_ble_eq_true rfl)⟩ (fun u H locs hw_12 hP hD hS => ?_)
            obtain ⟨u_8, u_9, u_10⟩ := u
            have hw_12 : (u_8, u_9, u_10) = (f_X2_enter lm lf flc md ti) := hw_12
            have hP : va_P D vwCl [(o, .inr (5, [.ref ga, .ref ba, .ref ua, .ref ma, .ref sa, .ref la, .ref pa, .ref wa, .int ce, .int he, .int lo, .int si, .int ti])), (ma, .inr (1, [.ref mr, .int mn])), (la, .inr (2, [.ref lc, .int u_9, .int u_10])), (lc, .inl (cI, 16, .inl u_8))] H := hP
            have hD : va_D A [(o, .inr (5, [.ref ga, .ref ba, .ref ua, .ref ma, .ref sa, .ref la, .ref pa, .ref wa, .int ce, .int he, .int lo, .int si, .int ti])), (ma, .inr (1, [.ref mr, .int mn])), (la, .inr (2, [.ref lc, .int u_9, .int u_10])), (lc, .inl (cI, 16, .inl u_8))] := hD
            refine lv_iconst (v := 0) hx hb dX5_command_84 (by decide) ?_
            exact kk_ri (u_8, u_9, u_10) hx hb hr hlk dX5_command_85 hS (hP.sub [0, 1, 2, 3] rfl) (hD.sub [0, 1, 2, 3] (by decide) rfl) (by show ((0 : Int32), u_8, u_9, u_10) = f_X5_command ce he lo si ti mn lm lf flc md; unfold f_X5_command; rw [if_neg c_3]; rw [if_neg c_4]; rw [if_pos c_5]; rw [if_neg c_6]; rw [if_neg c_7]; rw [← hw_12]; try dsimp only; try rfl)
          · refine lv_aload_n hx hb dX5_command_59 rfl (lv_at hl 0 rfl) ?_
            refine va_get (D := D) hx hb hts hiX5 hown hK.1 hP 0 rfl rfl 3 (by decide) (hts (.fieldLink RX5 29 "FencePilot" "mission" "LFencePilot$Items;") (by decide +kernel)) (fun _ h9 => h9) rfl dX5_command_60 ?_
            refine kk_cVi (wc := [(ma, .inr (1, [.ref mr, .int mn]))]) (wr := [(o, .inr (5, [.ref ga, .ref ba, .ref ua, .ref ma, .ref sa, .ref la, .ref pa, .ref wa, .int ce, .int he, .int lo, .int si, .int ti])), (la, .inr (2, [.ref lc, .int lm, .int lf])), (lc, .inl (cI, 16, .inl flc))]) ⟨hx, hb, hml, hown, hts⟩ hK hP hD hS hA [1] [0, 2, 3] (k_X1_isEmpty l D cI cZ ma mr H.size mn) (cwV 0 hts gX5_command_X1_isEmpty rfl rfl rfl (by decide +kernel) ⟨(Nat.le_of_ble_eq_true rfl), (Nat.le_of_ble_eq_true rfl)⟩) rfl rfl (by decide) (by decide) (by decide) 0 1 rfl rfl rfl rfl hl.1 rfl (Nat.le_of_ble_eq_true rfl) dX5_command_63 ⟨(Nat.le_of_ble_eq_true rfl), (Nat.le_of_ble_eq_true rfl)⟩ (fun r_13 u H locs hw_14 hP hD hS => ?_)
            have hw_14 : (f_X1_isEmpty mn) = r_13 := (hw_14 : r_13 = (f_X1_isEmpty mn)).symm
            subst hw_14
            have hP : va_P D vwCl [(o, .inr (5, [.ref ga, .ref ba, .ref ua, .ref ma, .ref sa, .ref la, .ref pa, .ref wa, .int ce, .int he, .int lo, .int si, .int ti])), (la, .inr (2, [.ref lc, .int lm, .int lf])), (lc, .inl (cI, 16, .inl flc)), (ma, .inr (1, [.ref mr, .int mn]))] H := hP
            have hD : va_D A [(o, .inr (5, [.ref ga, .ref ba, .ref ua, .ref ma, .ref sa, .ref la, .ref pa, .ref wa, .int ce, .int he, .int lo, .int si, .int ti])), (la, .inr (2, [.ref lc, .int lm, .int lf])), (lc, .inl (cI, 16, .inl flc)), (ma, .inr (1, [.ref mr, .int mn]))] := hD
            refine lv_if_eq (tgt := 72) hx hb dX5_command_66 (by decide) (fun c_15 => ?_) (fun c_15 => ?_)
            · refine lv_aload_n hx hb dX5_command_72 rfl (lv_at hl 0 rfl) ?_
              refine va_get (D := D) hx hb hts hiX5 hown hK.1 hP 0 rfl rfl 5 (by decide) (hts (.fieldLink RX5 43 "FencePilot" "modes" "LFencePilot$ModeLog;") (by decide +kernel)) (fun _ h9 => h9) rfl dX5_command_73 ?_
              refine lv_iload_n hx hb dX5_command_76 rfl (lv_at hl 1 rfl) ?_
              refine lv_aload_n hx hb dX5_command_77 rfl (lv_at hl 0 rfl) ?_
              refine va_get (D := D) hx hb hts hiX5 hown hK.1 hP 0 rfl rfl 12 (by decide) (hts (.fieldLink RX5 67 "FencePilot" "ticks" "I") (by decide +kernel)) (fun _ h9 => h9) rfl dX5_command_78 ?_
              refine kk_cVv (wc := [(la, .inr (2, [.ref lc, .int lm, .int lf])), (lc, .inl (cI, 16, .inl flc))]) (wr := [(o, .inr (5, [.ref ga, .ref ba, .ref ua, .ref ma, .ref sa, .ref la, .ref pa, .ref wa, .int ce, .int he, .int lo, .int si, .int ti])), (ma, .inr (1, [.ref mr, .int mn]))]) ⟨hx, hb, hml, hown, hts⟩ hK hP hD hS hA [1, 2] [0, 3] (k_X2_enter l D cI cZ la lc H.size lm lf flc md ti) (cwV 2 hts gX5_command_X2_enter rfl rfl rfl (by decide +kernel) ⟨(Nat.le_of_ble_eq_true rfl), (Nat.le_of_ble_eq_true rfl)⟩) rfl rfl (by decide) (by decide) (by decide) 0 2 rfl rfl rfl rfl hl.1 rfl (Nat.le_of_ble_eq_true rfl) dX5_command_81 ⟨(Nat.le_of_ble_eq_true rfl), (Nat.le_of_ble_eq_true rfl)⟩ (fun u H locs hw_20 hP hD hS => ?_)
              obtain ⟨u_16, u_17, u_18⟩ := u
              have hw_20 : (u_16, u_17, u_18) = (f_X2_enter lm lf flc md ti) := hw_20
              have hP : va_P D vwCl [(o, .inr (5, [.ref ga, .ref ba, .ref ua, .ref ma, .ref sa, .ref la, .ref pa, .ref wa, .int ce, .int he, .int lo, .int si, .int ti])), (ma, .inr (1, [.ref mr, .int mn])), (la, .inr (2, [.ref lc, .int u_17, .int u_18])), (lc, .inl (cI, 16, .inl u_16))] H := hP
              have hD : va_D A [(o, .inr (5, [.ref ga, .ref ba, .ref ua, .ref ma, .ref sa, .ref la, .ref pa, .ref wa, .int ce, .int he, .int lo, .int si, .int ti])), (ma, .inr (1, [.ref mr, .int mn])), (la, .inr (2, [.ref lc, .int u_17, .int u_18])), (lc, .inl (cI, 16, .inl u_16))] := hD
              refine lv_iconst (v := 0) hx hb dX5_command_84 (by decide) ?_
              exact kk_ri (u_16, u_17, u_18) hx hb hr hlk dX5_command_85 hS (hP.sub [0, 1, 2, 3] rfl) (hD.sub [0, 1, 2, 3] (by decide) rfl) (by show ((0 : Int32), u_16, u_17, u_18) = f_X5_command ce he lo si ti mn lm lf flc md; unfold f_X5_command; rw [if_neg c_3]; rw [if_neg c_4]; rw [if_pos c_5]; rw [if_neg c_6]; rw [if_pos c_7]; rw [if_pos c_15]; rw [← hw_20]; try dsimp only; try rfl)
            · refine lv_bipush (v := -11) hx hb dX5_command_69 (by decide) ?_
              exact kk_ri (flc, lm, lf) hx hb hr hlk dX5_command_71 hS (hP.sub [0, 3, 1, 2] rfl) (hD.sub [0, 3, 1, 2] (by decide) rfl) (by show ((-11 : Int32), flc, lm, lf) = f_X5_command ce he lo si ti mn lm lf flc md; unfold f_X5_command; rw [if_neg c_3]; rw [if_neg c_4]; rw [if_pos c_5]; rw [if_neg c_6]; rw [if_pos c_7]; rw [if_neg c_15]; try rfl)
        · refine lv_iload_n hx hb dX5_command_46 rfl (lv_at hl 1 rfl) ?_
          refine lv_iconst (v := 2) hx hb dX5_command_47 (by decide) ?_
          refine lv_icmp_ne (tgt := 54) hx hb dX5_command_48 (by decide) (fun c_21 => ?_) (fun c_21 => ?_)
          · refine lv_iload_n hx hb dX5_command_54 rfl (lv_at hl 1 rfl) ?_
            refine lv_iconst (v := 2) hx hb dX5_command_55 (by decide) ?_
            refine lv_icmp_ne (tgt := 72) hx hb dX5_command_56 (by decide) (fun _ => ?_) (fun z => absurd z c_21)
            refine lv_aload_n hx hb dX5_command_72 rfl (lv_at hl 0 rfl) ?_
            refine va_get (D := D) hx hb hts hiX5 hown hK.1 hP 0 rfl rfl 5 (by decide) (hts (.fieldLink RX5 43 "FencePilot" "modes" "LFencePilot$ModeLog;") (by decide +kernel)) (fun _ h9 => h9) rfl dX5_command_73 ?_
            refine lv_iload_n hx hb dX5_command_76 rfl (lv_at hl 1 rfl) ?_
            refine lv_aload_n hx hb dX5_command_77 rfl (lv_at hl 0 rfl) ?_
            refine va_get (D := D) hx hb hts hiX5 hown hK.1 hP 0 rfl rfl 12 (by decide) (hts (.fieldLink RX5 67 "FencePilot" "ticks" "I") (by decide +kernel)) (fun _ h9 => h9) rfl dX5_command_78 ?_
            refine kk_cVv (wc := [(la, .inr (2, [.ref lc, .int lm, .int lf])), (lc, .inl (cI, 16, .inl flc))]) (wr := [(o, .inr (5, [.ref ga, .ref ba, .ref ua, .ref ma, .ref sa, .ref la, .ref pa, .ref wa, .int ce, .int he, .int lo, .int si, .int ti])), (ma, .inr (1, [.ref mr, .int mn]))]) ⟨hx, hb, hml, hown, hts⟩ hK hP hD hS hA [2, 3] [0, 1] (k_X2_enter l D cI cZ la lc H.size lm lf flc md ti) (cwV 2 hts gX5_command_X2_enter rfl rfl rfl (by decide +kernel) ⟨(Nat.le_of_ble_eq_true rfl), (Nat.le_of_ble_eq_true rfl)⟩) rfl rfl (by decide) (by decide) (by decide) 0 2 rfl rfl rfl rfl hl.1 rfl (Nat.le_of_ble_eq_true rfl) dX5_command_81 ⟨(Nat.le_of_ble_eq_true rfl), (Nat.le_of_ble_eq_true rfl)⟩ (fun u H locs hw_26 hP hD hS => ?_)
            obtain ⟨u_22, u_23, u_24⟩ := u
            have hw_26 : (u_22, u_23, u_24) = (f_X2_enter lm lf flc md ti) := hw_26
            have hP : va_P D vwCl [(o, .inr (5, [.ref ga, .ref ba, .ref ua, .ref ma, .ref sa, .ref la, .ref pa, .ref wa, .int ce, .int he, .int lo, .int si, .int ti])), (ma, .inr (1, [.ref mr, .int mn])), (la, .inr (2, [.ref lc, .int u_23, .int u_24])), (lc, .inl (cI, 16, .inl u_22))] H := hP
            have hD : va_D A [(o, .inr (5, [.ref ga, .ref ba, .ref ua, .ref ma, .ref sa, .ref la, .ref pa, .ref wa, .int ce, .int he, .int lo, .int si, .int ti])), (ma, .inr (1, [.ref mr, .int mn])), (la, .inr (2, [.ref lc, .int u_23, .int u_24])), (lc, .inl (cI, 16, .inl u_22))] := hD
            refine lv_iconst (v := 0) hx hb dX5_command_84 (by decide) ?_
            exact kk_ri (u_22, u_23, u_24) hx hb hr hlk dX5_command_85 hS (hP.sub [0, 1, 2, 3] rfl) (hD.sub [0, 1, 2, 3] (by decide) rfl) (by show ((0 : Int32), u_22, u_23, u_24) = f_X5_command ce he lo si ti mn lm lf flc md; unfold f_X5_command; rw [if_neg c_3]; rw [if_neg c_4]; rw [if_pos c_5]; rw [if_pos c_6]; rw [if_neg c_21]; rw [← hw_26]; try dsimp only; try rfl)
          · refine lv_bipush (v := -10) hx hb dX5_command_51 (by decide) ?_
            exact kk_ri (flc, lm, lf) hx hb hr hlk dX5_command_53 hS (hP.sub [0, 1, 2, 3] rfl) (hD.sub [0, 1, 2, 3] (by decide) rfl) (by show ((-10 : Int32), flc, lm, lf) = f_X5_command ce he lo si ti mn lm lf flc md; unfold f_X5_command; rw [if_neg c_3]; rw [if_neg c_4]; rw [if_pos c_5]; rw [if_pos c_6]; rw [if_pos c_21]; try rfl)
    · refine lv_bipush (v := -9) hx hb dX5_command_22 (by decide) ?_
      exact kk_ri (flc, lm, lf) hx hb hr hlk dX5_command_24 hS (hP.sub [0, 1, 2, 3] rfl) (hD.sub [0, 1, 2, 3] (by decide) rfl) (by show ((-9 : Int32), flc, lm, lf) = f_X5_command ce he lo si ti mn lm lf flc md; unfold f_X5_command; rw [if_neg c_3]; rw [if_pos c_4]; try rfl)
  · refine lv_bipush (v := -5) hx hb dX5_command_9 (by decide) ?_
    exact kk_ri (flc, lm, lf) hx hb hr hlk dX5_command_11 hS (hP.sub [0, 1, 2, 3] rfl) (hD.sub [0, 1, 2, 3] (by decide) rfl) (by show ((-5 : Int32), flc, lm, lf) = f_X5_command ce he lo si ti mn lm lf flc md; unfold f_X5_command; rw [if_pos c_3]; try rfl)
def f_X5_mode (ce : Int32) (he : Int32) (lo : Int32) (si : Int32) (ti : Int32) (lm : Int32) (lf : Int32) : Int32 := lm
set_option maxHeartbeats 4000000 in
set_option maxRecDepth 100000 in
theorem k_X5_mode (l : Launch) (D : va_G) (cI cZ : ClassId) (o : Nat) (ga : Nat) (ba : Nat) (ua : Nat) (ma : Nat) (sa : Nat) (la : Nat) (pa : Nat) (wa : Nat) (lc : Nat) (sz : Nat) (ce : Int32) (he : Int32) (lo : Int32) (si : Int32) (ti : Int32) (lm : Int32) (lf : Int32)   : kk_Mi l D cI cZ yX5_mode wsX5_mode ({ frames := 0, cells := 0, slots := 0, locals := 0 } : Room) [.ref o] sz [(o, .inr (5, [.ref ga, .ref ba, .ref ua, .ref ma, .ref sa, .ref la, .ref pa, .ref wa, .int ce, .int he, .int lo, .int si, .int ti])), (la, .inr (2, [.ref lc, .int lm, .int lf]))] (fun (r : Int32) (_ : Unit) => r = f_X5_mode ce he lo si ti lm lf) (fun _ => [(o, .inr (5, [.ref ga, .ref ba, .ref ua, .ref ma, .ref sa, .ref la, .ref pa, .ref wa, .int ce, .int he, .int lo, .int si, .int ti])), (la, .inr (2, [.ref lc, .int lm, .int lf]))]) 0 0 := by
  refine kk_enti (cc := cX5_mode) (maxL := 1) (ret := (some .int)) (by decide +kernel) rfl (Nat.le_of_ble_eq_true rfl) (fun p e s m args below meth c A ls hX hP hD hS hl => ?_)
  obtain ⟨hx, hb, hml, hown, hts, hr, hlk, hnm, hK, hA⟩ := hX
  have hown : s.vm.findClass RX5 = some m.cls := hown
  have hiX2 : ∀ w ∈ wsX20, w ∈ wsX5_mode := by decide +kernel
  have hiX5 : ∀ w ∈ wsX50, w ∈ wsX5_mode := by decide +kernel
  have hl : lv_has ls 1 [(0, .ref o)] := hl
  refine lv_aload_n hx hb dX5_mode_0 rfl (lv_at hl 0 rfl) ?_
  refine va_get (D := D) hx hb hts hiX5 hown hK.1 hP 0 rfl rfl 5 (by decide) (hts (.fieldLink RX5 43 "FencePilot" "modes" "LFencePilot$ModeLog;") (by decide +kernel)) (fun _ h9 => h9) rfl dX5_mode_1 ?_
  refine va_getN (D := D) hx hb hts hiX2 hown hK.1 hP 1 rfl rfl 1 (by decide) (va_Nw.use rfl hK.2.2.2.2.2.2.1) (fun _ h9 => h9) rfl dX5_mode_4 ?_
  exact kk_ri () hx hb hr hlk dX5_mode_7 hS (hP.sub [0, 1] rfl) (hD.sub [0, 1] (by decide) rfl) (by show lm = f_X5_mode ce he lo si ti lm lf; unfold f_X5_mode; rfl)
def f_X5_demand (ce : Int32) (he : Int32) (lo : Int32) (si : Int32) (ti : Int32) (fwi : Nat → Int32) (axis : Int32) : Int32 := (if (f_X5_isWithin axis (0 : Int32) (2 : Int32)) = (0 : Int32) then (0 : Int32) else (fwi axis.toNatClampNeg))
set_option maxHeartbeats 4000000 in
set_option maxRecDepth 100000 in
theorem k_X5_demand (l : Launch) (D : va_G) (cI cZ : ClassId) (o : Nat) (ga : Nat) (ba : Nat) (ua : Nat) (ma : Nat) (sa : Nat) (la : Nat) (pa : Nat) (wa : Nat) (sz : Nat) (ce : Int32) (he : Int32) (lo : Int32) (si : Int32) (ti : Int32) (fwi : Nat → Int32) (axis : Int32)  : kk_Mi l D cI cZ yX5_demand wsX5_demand ({ frames := 1, cells := 0, slots := 0, locals := 22 } : Room) [.ref o, .int axis] sz [(o, .inr (5, [.ref ga, .ref ba, .ref ua, .ref ma, .ref sa, .ref la, .ref pa, .ref wa, .int ce, .int he, .int lo, .int si, .int ti])), (wa, .inl (cI, 3, .inl fwi))] (fun (r : Int32) (_ : Unit) => r = f_X5_demand ce he lo si ti fwi axis) (fun _ => [(o, .inr (5, [.ref ga, .ref ba, .ref ua, .ref ma, .ref sa, .ref la, .ref pa, .ref wa, .int ce, .int he, .int lo, .int si, .int ti])), (wa, .inl (cI, 3, .inl fwi))]) 0 0 := by
  refine kk_enti (cc := cX5_demand) (maxL := 2) (ret := (some .int)) (by decide +kernel) rfl (Nat.le_of_ble_eq_true rfl) (fun p e s m args below meth c A ls hX hP hD hS hl => ?_)
  obtain ⟨hx, hb, hml, hown, hts, hr, hlk, hnm, hK, hA⟩ := hX
  have hown : s.vm.findClass RX5 = some m.cls := hown
  have hiX5 : ∀ w ∈ wsX50, w ∈ wsX5_demand := by decide +kernel
  have hl : lv_has ls 2 [(0, .ref o), (1, .int axis)] := hl
  refine lv_iload_n hx hb dX5_demand_0 rfl (lv_at hl 1 rfl) ?_
  refine lv_iconst (v := 0) hx hb dX5_demand_1 (by decide) ?_
  refine lv_iconst (v := 2) hx hb dX5_demand_2 (by decide) ?_
  refine kk_cSi (wc := []) (wr := [(o, .inr (5, [.ref ga, .ref ba, .ref ua, .ref ma, .ref sa, .ref la, .ref pa, .ref wa, .int ce, .int he, .int lo, .int si, .int ti])), (wa, .inl (cI, 3, .inl fwi))]) ⟨hx, hb, hml, hown, hts⟩ hK hP hD hS hA [] [0, 1] (k_X5_isWithin l D cI cZ  s.heap.size axis (0 : Int32) (2 : Int32)) (va_cwS 3 hts gX5_demand_X5_isWithin rfl rfl rfl (by decide +kernel) ⟨(Nat.le_of_ble_eq_true rfl), (Nat.le_of_ble_eq_true rfl)⟩) rfl rfl (by decide) (by decide) (by decide) rfl hl.1 rfl (Nat.le_of_ble_eq_true rfl) dX5_demand_3 ⟨(Nat.le_of_ble_eq_true rfl), (Nat.le_of_ble_eq_true rfl)⟩ (fun r_1 u H locs hw_2 hP hD hS => ?_)
  have hw_2 : (f_X5_isWithin axis (0 : Int32) (2 : Int32)) = r_1 := (hw_2 : r_1 = (f_X5_isWithin axis (0 : Int32) (2 : Int32))).symm
  subst hw_2
  have hP : va_P D vwCl [(o, .inr (5, [.ref ga, .ref ba, .ref ua, .ref ma, .ref sa, .ref la, .ref pa, .ref wa, .int ce, .int he, .int lo, .int si, .int ti])), (wa, .inl (cI, 3, .inl fwi))] H := hP
  have hD : va_D A [(o, .inr (5, [.ref ga, .ref ba, .ref ua, .ref ma, .ref sa, .ref la, .ref pa, .ref wa, .int ce, .int he, .int lo, .int si, .int ti])), (wa, .inl (cI, 3, .inl fwi))] := hD
  refine lv_if_eq (tgt := 18) hx hb dX5_demand_6 (by decide) (fun c_3 => ?_) (fun c_3 => ?_)
  · refine lv_iconst (v := 0) hx hb dX5_demand_18 (by decide) ?_
    exact kk_ri () hx hb hr hlk dX5_demand_19 hS (hP.sub [0, 1] rfl) (hD.sub [0, 1] (by decide) rfl) (by show (0 : Int32) = f_X5_demand ce he lo si ti fwi axis; unfold f_X5_demand; rw [if_pos c_3]; try rfl)
  · refine lv_aload_n hx hb dX5_demand_9 rfl (lv_at hl 0 rfl) ?_
    refine va_get (D := D) hx hb hts hiX5 hown hK.1 hP 0 rfl rfl 7 (by decide) (hts (.fieldLink RX5 51 "FencePilot" "wish" "[I") (by decide +kernel)) (fun _ h9 => h9) rfl dX5_demand_10 ?_
    refine lv_iload_n hx hb dX5_demand_13 rfl (lv_at hl 1 rfl) ?_
    refine va_iald hx hb hK.1 hP 1 0 rfl rfl (kk_Lix' (kk_withinL (b := 2) c_3 rfl (by decide)) (by decide)) dX5_demand_14 ?_
    refine lv_goto (tgt := 19) hx hb dX5_demand_15 (by decide) ?_
    exact kk_ri () hx hb hr hlk dX5_demand_19 hS (hP.sub [0, 1] rfl) (hD.sub [0, 1] (by decide) rfl) (by show (fwi axis.toNatClampNeg) = f_X5_demand ce he lo si ti fwi axis; unfold f_X5_demand; rw [if_neg c_3]; try rfl)
def f_X5_position (ce : Int32) (he : Int32) (lo : Int32) (si : Int32) (ti : Int32) (fpl : Nat → Int32) (axis : Int32) : Int32 := (if (f_X5_isWithin axis (0 : Int32) (2 : Int32)) = (0 : Int32) then (0 : Int32) else (fpl axis.toNatClampNeg))
set_option maxHeartbeats 4000000 in
set_option maxRecDepth 100000 in
theorem k_X5_position (l : Launch) (D : va_G) (cI cZ : ClassId) (o : Nat) (ga : Nat) (ba : Nat) (ua : Nat) (ma : Nat) (sa : Nat) (la : Nat) (pa : Nat) (wa : Nat) (sz : Nat) (ce : Int32) (he : Int32) (lo : Int32) (si : Int32) (ti : Int32) (fpl : Nat → Int32) (axis : Int32)  : kk_Mi l D cI cZ yX5_position wsX5_position ({ frames := 1, cells := 0, slots := 0, locals := 22 } : Room) [.ref o, .int axis] sz [(o, .inr (5, [.ref ga, .ref ba, .ref ua, .ref ma, .ref sa, .ref la, .ref pa, .ref wa, .int ce, .int he, .int lo, .int si, .int ti])), (pa, .inl (cI, 3, .inl fpl))] (fun (r : Int32) (_ : Unit) => r = f_X5_position ce he lo si ti fpl axis) (fun _ => [(o, .inr (5, [.ref ga, .ref ba, .ref ua, .ref ma, .ref sa, .ref la, .ref pa, .ref wa, .int ce, .int he, .int lo, .int si, .int ti])), (pa, .inl (cI, 3, .inl fpl))]) 0 0 := by
  refine kk_enti (cc := cX5_position) (maxL := 2) (ret := (some .int)) (by decide +kernel) rfl (Nat.le_of_ble_eq_true rfl) (fun p e s m args below meth c A ls hX hP hD hS hl => ?_)
  obtain ⟨hx, hb, hml, hown, hts, hr, hlk, hnm, hK, hA⟩ := hX
  have hown : s.vm.findClass RX5 = some m.cls := hown
  have hiX5 : ∀ w ∈ wsX50, w ∈ wsX5_position := by decide +kernel
  have hl : lv_has ls 2 [(0, .ref o), (1, .int axis)] := hl
  refine lv_iload_n hx hb dX5_position_0 rfl (lv_at hl 1 rfl) ?_
  refine lv_iconst (v := 0) hx hb dX5_position_1 (by decide) ?_
  refine lv_iconst (v := 2) hx hb dX5_position_2 (by decide) ?_
  refine kk_cSi (wc := []) (wr := [(o, .inr (5, [.ref ga, .ref ba, .ref ua, .ref ma, .ref sa, .ref la, .ref pa, .ref wa, .int ce, .int he, .int lo, .int si, .int ti])), (pa, .inl (cI, 3, .inl fpl))]) ⟨hx, hb, hml, hown, hts⟩ hK hP hD hS hA [] [0, 1] (k_X5_isWithin l D cI cZ  s.heap.size axis (0 : Int32) (2 : Int32)) (va_cwS 3 hts gX5_position_X5_isWithin rfl rfl rfl (by decide +kernel) ⟨(Nat.le_of_ble_eq_true rfl), (Nat.le_of_ble_eq_true rfl)⟩) rfl rfl (by decide) (by decide) (by decide) rfl hl.1 rfl (Nat.le_of_ble_eq_true rfl) dX5_position_3 ⟨(Nat.le_of_ble_eq_true rfl), (Nat.le_of_ble_eq_true rfl)⟩ (fun r_1 u H locs hw_2 hP hD hS => ?_)
  have hw_2 : (f_X5_isWithin axis (0 : Int32) (2 : Int32)) = r_1 := (hw_2 : r_1 = (f_X5_isWithin axis (0 : Int32) (2 : Int32))).symm
  subst hw_2
  have hP : va_P D vwCl [(o, .inr (5, [.ref ga, .ref ba, .ref ua, .ref ma, .ref sa, .ref la, .ref pa, .ref wa, .int ce, .int he, .int lo, .int si, .int ti])), (pa, .inl (cI, 3, .inl fpl))] H := hP
  have hD : va_D A [(o, .inr (5, [.ref ga, .ref ba, .ref ua, .ref ma, .ref sa, .ref la, .ref pa, .ref wa, .int ce, .int he, .int lo, .int si, .int ti])), (pa, .inl (cI, 3, .inl fpl))] := hD
  refine lv_if_eq (tgt := 18) hx hb dX5_position_6 (by decide) (fun c_3 => ?_) (fun c_3 => ?_)
  · refine lv_iconst (v := 0) hx hb dX5_position_18 (by decide) ?_
    exact kk_ri () hx hb hr hlk dX5_position_19 hS (hP.sub [0, 1] rfl) (hD.sub [0, 1] (by decide) rfl) (by show (0 : Int32) = f_X5_position ce he lo si ti fpl axis; unfold f_X5_position; rw [if_pos c_3]; try rfl)
  · refine lv_aload_n hx hb dX5_position_9 rfl (lv_at hl 0 rfl) ?_
    refine va_get (D := D) hx hb hts hiX5 hown hK.1 hP 0 rfl rfl 6 (by decide) (hts (.fieldLink RX5 47 "FencePilot" "place" "[I") (by decide +kernel)) (fun _ h9 => h9) rfl dX5_position_10 ?_
    refine lv_iload_n hx hb dX5_position_13 rfl (lv_at hl 1 rfl) ?_
    refine va_iald hx hb hK.1 hP 1 0 rfl rfl (kk_Lix' (kk_withinL (b := 2) c_3 rfl (by decide)) (by decide)) dX5_position_14 ?_
    refine lv_goto (tgt := 19) hx hb dX5_position_15 (by decide) ?_
    exact kk_ri () hx hb hr hlk dX5_position_19 hS (hP.sub [0, 1] rfl) (hD.sub [0, 1] (by decide) rfl) (by show (fpl axis.toNatClampNeg) = f_X5_position ce he lo si ti fpl axis; unfold f_X5_position; rw [if_neg c_3]; try rfl)
def f_X5_lost (ce : Int32) (he : Int32) (lo : Int32) (si : Int32) (ti : Int32) : Int32 := lo
set_option maxHeartbeats 4000000 in
set_option maxRecDepth 100000 in
theorem k_X5_lost (l : Launch) (D : va_G) (cI cZ : ClassId) (o : Nat) (ga : Nat) (ba : Nat) (ua : Nat) (ma : Nat) (sa : Nat) (la : Nat) (pa : Nat) (wa : Nat) (sz : Nat) (ce : Int32) (he : Int32) (lo : Int32) (si : Int32) (ti : Int32)   : kk_Mi l D cI cZ yX5_lost wsX5_lost ({ frames := 0, cells := 0, slots := 0, locals := 0 } : Room) [.ref o] sz [(o, .inr (5, [.ref ga, .ref ba, .ref ua, .ref ma, .ref sa, .ref la, .ref pa, .ref wa, .int ce, .int he, .int lo, .int si, .int ti]))] (fun (r : Int32) (_ : Unit) => r = f_X5_lost ce he lo si ti) (fun _ => [(o, .inr (5, [.ref ga, .ref ba, .ref ua, .ref ma, .ref sa, .ref la, .ref pa, .ref wa, .int ce, .int he, .int lo, .int si, .int ti]))]) 0 0 := by
  refine kk_enti (cc := cX5_lost) (maxL := 1) (ret := (some .int)) (by decide +kernel) rfl (Nat.le_of_ble_eq_true rfl) (fun p e s m args below meth c A ls hX hP hD hS hl => ?_)
  obtain ⟨hx, hb, hml, hown, hts, hr, hlk, hnm, hK, hA⟩ := hX
  have hown : s.vm.findClass RX5 = some m.cls := hown
  have hiX5 : ∀ w ∈ wsX50, w ∈ wsX5_lost := by decide +kernel
  have hl : lv_has ls 1 [(0, .ref o)] := hl
  refine lv_aload_n hx hb dX5_lost_0 rfl (lv_at hl 0 rfl) ?_
  refine va_get (D := D) hx hb hts hiX5 hown hK.1 hP 0 rfl rfl 10 (by decide) (hts (.fieldLink RX5 61 "FencePilot" "lostTicks" "I") (by decide +kernel)) (fun _ h9 => h9) rfl dX5_lost_1 ?_
  exact kk_ri () hx hb hr hlk dX5_lost_4 hS (hP.sub [0] rfl) (hD.sub [0] (by decide) rfl) (by show lo = f_X5_lost ce he lo si ti; unfold f_X5_lost; rfl)
def f_X5_waypoint (ce : Int32) (he : Int32) (lo : Int32) (si : Int32) (ti : Int32) (mn : Int32) : Int32 := (if (f_X1_isEmpty mn) = (0 : Int32) then he else (-11 : Int32))
set_option maxHeartbeats 4000000 in
set_option maxRecDepth 100000 in
theorem k_X5_waypoint (l : Launch) (D : va_G) (cI cZ : ClassId) (o : Nat) (ga : Nat) (ba : Nat) (ua : Nat) (ma : Nat) (sa : Nat) (la : Nat) (pa : Nat) (wa : Nat) (mr : Nat) (sz : Nat) (ce : Int32) (he : Int32) (lo : Int32) (si : Int32) (ti : Int32) (mn : Int32)   : kk_Mi l D cI cZ yX5_waypoint wsX5_waypoint ({ frames := 1, cells := 0, slots := 0, locals := 20 } : Room) [.ref o] sz [(o, .inr (5, [.ref ga, .ref ba, .ref ua, .ref ma, .ref sa, .ref la, .ref pa, .ref wa, .int ce, .int he, .int lo, .int si, .int ti])), (ma, .inr (1, [.ref mr, .int mn]))] (fun (r : Int32) (_ : Unit) => r = f_X5_waypoint ce he lo si ti mn) (fun _ => [(o, .inr (5, [.ref ga, .ref ba, .ref ua, .ref ma, .ref sa, .ref la, .ref pa, .ref wa, .int ce, .int he, .int lo, .int si, .int ti])), (ma, .inr (1, [.ref mr, .int mn]))]) 0 0 := by
  refine kk_enti (cc := cX5_waypoint) (maxL := 1) (ret := (some .int)) (by decide +kernel) rfl (Nat.le_of_ble_eq_true rfl) (fun p e s m args below meth c A ls hX hP hD hS hl => ?_)
  obtain ⟨hx, hb, hml, hown, hts, hr, hlk, hnm, hK, hA⟩ := hX
  have hown : s.vm.findClass RX5 = some m.cls := hown
  have hiX1 : ∀ w ∈ wsX10, w ∈ wsX5_waypoint := by decide +kernel
  have hiX5 : ∀ w ∈ wsX50, w ∈ wsX5_waypoint := by decide +kernel
  have hl : lv_has ls 1 [(0, .ref o)] := hl
  refine lv_aload_n hx hb dX5_waypoint_0 rfl (lv_at hl 0 rfl) ?_
  refine va_get (D := D) hx hb hts hiX5 hown hK.1 hP 0 rfl rfl 3 (by decide) (hts (.fieldLink RX5 29 "FencePilot" "mission" "LFencePilot$Items;") (by decide +kernel)) (fun _ h9 => h9) rfl dX5_waypoint_1 ?_
  refine kk_cVi (wc := [(ma, .inr (1, [.ref mr, .int mn]))]) (wr := [(o, .inr (5, [.ref ga, .ref ba, .ref ua, .ref ma, .ref sa, .ref la, .ref pa, .ref wa, .int ce, .int he, .int lo, .int si, .int ti]))]) ⟨hx, hb, hml, hown, hts⟩ hK hP hD hS hA [1] [0] (k_X1_isEmpty l D cI cZ ma mr s.heap.size mn) (cwV 0 hts gX5_waypoint_X1_isEmpty rfl rfl rfl (by decide +kernel) ⟨(Nat.le_of_ble_eq_true rfl), (Nat.le_of_ble_eq_true rfl)⟩) rfl rfl (by decide) (by decide) (by decide) 0 1 rfl rfl rfl rfl hl.1 rfl (Nat.le_of_ble_eq_true rfl) dX5_waypoint_4 ⟨(Nat.le_of_ble_eq_true rfl), (Nat.le_of_ble_eq_true rfl)⟩ (fun r_1 u H locs hw_2 hP hD hS => ?_)
  have hw_2 : (f_X1_isEmpty mn) = r_1 := (hw_2 : r_1 = (f_X1_isEmpty mn)).symm
  subst hw_2
  have hP : va_P D vwCl [(o, .inr (5, [.ref ga, .ref ba, .ref ua, .ref ma, .ref sa, .ref la, .ref pa, .ref wa, .int ce, .int he, .int lo, .int si, .int ti])), (ma, .inr (1, [.ref mr, .int mn]))] H := hP
  have hD : va_D A [(o, .inr (5, [.ref ga, .ref ba, .ref ua, .ref ma, .ref sa, .ref la, .ref pa, .ref wa, .int ce, .int he, .int lo, .int si, .int ti])), (ma, .inr (1, [.ref mr, .int mn]))] := hD
  refine lv_if_eq (tgt := 15) hx hb dX5_waypoint_7 (by decide) (fun c_3 => ?_) (fun c_3 => ?_)
  · refine lv_aload_n hx hb dX5_waypoint_15 rfl (lv_at hl 0 rfl) ?_
    refine va_get (D := D) hx hb hts hiX5 hown hK.1 hP 0 rfl rfl 9 (by decide) (hts (.fieldLink RX5 58 "FencePilot" "heading" "I") (by decide +kernel)) (fun _ h9 => h9) rfl dX5_waypoint_16 ?_
    exact kk_ri () hx hb hr hlk dX5_waypoint_19 hS (hP.sub [0, 1] rfl) (hD.sub [0, 1] (by decide) rfl) (by show he = f_X5_waypoint ce he lo si ti mn; unfold f_X5_waypoint; rw [if_pos c_3]; try rfl)
  · refine lv_bipush (v := -11) hx hb dX5_waypoint_10 (by decide) ?_
    refine lv_goto (tgt := 19) hx hb dX5_waypoint_12 (by decide) ?_
    exact kk_ri () hx hb hr hlk dX5_waypoint_19 hS (hP.sub [0, 1] rfl) (hD.sub [0, 1] (by decide) rfl) (by show (-11 : Int32) = f_X5_waypoint ce he lo si ti mn; unfold f_X5_waypoint; rw [if_neg c_3]; try rfl)
def f_X5_safe (ce : Int32) (he : Int32) (lo : Int32) (si : Int32) (ti : Int32) (bn : Int32) (fbx : Nat → Int32) (fby : Nat → Int32) (x : Int32) (y : Int32) : Int32 := (if (f_X5_isInSensorReach x y) = (0 : Int32) then (0 : Int32) else (if (f_X0_leaveClear bn fbx fby x y (200 : Int32)) = (0 : Int32) then (0 : Int32) else (1 : Int32)))
set_option maxHeartbeats 4000000 in
set_option maxRecDepth 100000 in
theorem k_X5_safe (l : Launch) (D : va_G) (cI cZ : ClassId) (o : Nat) (ga : Nat) (ba : Nat) (ua : Nat) (ma : Nat) (sa : Nat) (la : Nat) (pa : Nat) (wa : Nat) (bqx : Nat) (bqy : Nat) (sz : Nat) (ce : Int32) (he : Int32) (lo : Int32) (si : Int32) (ti : Int32) (bn : Int32) (fbx : Nat → Int32) (fby : Nat → Int32) (x : Int32) (y : Int32) (hbn : kk_L bn 8) : kk_Mi l D cI cZ yX5_safe wsX5_safe ({ frames := 4, cells := 0, slots := 0, locals := 99 } : Room) [.ref o, .int x, .int y] sz [(o, .inr (5, [.ref ga, .ref ba, .ref ua, .ref ma, .ref sa, .ref la, .ref pa, .ref wa, .int ce, .int he, .int lo, .int si, .int ti])), (ba, .inr (0, [.ref bqx, .ref bqy, .int bn])), (bqx, .inl (cI, 8, .inl fbx)), (bqy, .inl (cI, 8, .inl fby))] (fun (r : Int32) (_ : Unit) => r = f_X5_safe ce he lo si ti bn fbx fby x y) (fun _ => [(o, .inr (5, [.ref ga, .ref ba, .ref ua, .ref ma, .ref sa, .ref la, .ref pa, .ref wa, .int ce, .int he, .int lo, .int si, .int ti])), (ba, .inr (0, [.ref bqx, .ref bqy, .int bn])), (bqx, .inl (cI, 8, .inl fbx)), (bqy, .inl (cI, 8, .inl fby))]) 0 0 := by
  refine kk_enti (cc := cX5_safe) (maxL := 3) (ret := (some .boolean)) (by decide +kernel) rfl (Nat.le_of_ble_eq_true rfl) (fun p e s m args below meth c A ls hX hP hD hS hl => ?_)
  obtain ⟨hx, hb, hml, hown, hts, hr, hlk, hnm, hK, hA⟩ := hX
  have hown : s.vm.findClass RX5 = some m.cls := hown
  have hiX0 : ∀ w ∈ wsX00, w ∈ wsX5_safe := by decide +kernel
  have hiX5 : ∀ w ∈ wsX50, w ∈ wsX5_safe := by decide +kernel
  have hl : lv_has ls 3 [(0, .ref o), (1, .int x), (2, .int y)] := hl
  refine lv_iload_n hx hb dX5_safe_0 rfl (lv_at hl 1 rfl) ?_
  refine lv_iload_n hx hb dX5_safe_1 rfl (lv_at hl 2 rfl) ?_
  refine kk_cSi (wc := []) (wr := [(o, .inr (5, [.ref ga, .ref ba, .ref ua, .ref ma, .ref sa, .ref la, .ref pa, .ref wa, .int ce, .int he, .int lo, .int si, .int ti])), (ba, .inr (0, [.ref bqx, .ref bqy, .int bn])), (bqx, .inl (cI, 8, .inl fbx)), (bqy, .inl (cI, 8, .inl fby))]) ⟨hx, hb, hml, hown, hts⟩ hK hP hD hS hA [] [0, 1, 2, 3] (k_X5_isInSensorReach l D cI cZ  s.heap.size x y) (va_cwS 2 hts gX5_safe_X5_isInSensorReach rfl rfl rfl (by decide +kernel) ⟨(Nat.le_of_ble_eq_true rfl), (Nat.le_of_ble_eq_true rfl)⟩) rfl rfl (by decide) (by decide) (by decide) rfl hl.1 rfl (Nat.le_of_ble_eq_true rfl) dX5_safe_2 ⟨(Nat.le_of_ble_eq_true rfl), (Nat.le_of_ble_eq_true rfl)⟩ (fun r_1 u H locs hw_2 hP hD hS => ?_)
  have hw_2 : (f_X5_isInSensorReach x y) = r_1 := (hw_2 : r_1 = (f_X5_isInSensorReach x y)).symm
  subst hw_2
  have hP : va_P D vwCl [(o, .inr (5, [.ref ga, .ref ba, .ref ua, .ref ma, .ref sa, .ref la, .ref pa, .ref wa, .int ce, .int he, .int lo, .int si, .int ti])), (ba, .inr (0, [.ref bqx, .ref bqy, .int bn])), (bqx, .inl (cI, 8, .inl fbx)), (bqy, .inl (cI, 8, .inl fby))] H := hP
  have hD : va_D A [(o, .inr (5, [.ref ga, .ref ba, .ref ua, .ref ma, .ref sa, .ref la, .ref pa, .ref wa, .int ce, .int he, .int lo, .int si, .int ti])), (ba, .inr (0, [.ref bqx, .ref bqy, .int bn])), (bqx, .inl (cI, 8, .inl fbx)), (bqy, .inl (cI, 8, .inl fby))] := hD
  refine lv_if_eq (tgt := 27) hx hb dX5_safe_5 (by decide) (fun c_3 => ?_) (fun c_3 => ?_)
  · refine lv_iconst (v := 0) hx hb dX5_safe_27 (by decide) ?_
    exact kk_rz () hx hb hr hlk dX5_safe_28 hS (hP.sub [0, 1, 2, 3] rfl) (hD.sub [0, 1, 2, 3] (by decide) rfl) rfl (by show (0 : Int32) = f_X5_safe ce he lo si ti bn fbx fby x y; unfold f_X5_safe; rw [if_pos c_3]; try rfl)
  · refine lv_aload_n hx hb dX5_safe_8 rfl (lv_at hl 0 rfl) ?_
    refine va_get (D := D) hx hb hts hiX5 hown hK.1 hP 0 rfl rfl 1 (by decide) (hts (.fieldLink RX5 16 "FencePilot" "bounds" "LFencePilot$Corners;") (by decide +kernel)) (fun _ h9 => h9) rfl dX5_safe_9 ?_
    refine lv_iload_n hx hb dX5_safe_12 rfl (lv_at hl 1 rfl) ?_
    refine lv_iload_n hx hb dX5_safe_13 rfl (lv_at hl 2 rfl) ?_
    refine lv_sipush (v := 200) hx hb dX5_safe_14 (by decide) ?_
    refine kk_cVi (wc := [(ba, .inr (0, [.ref bqx, .ref bqy, .int bn])), (bqx, .inl (cI, 8, .inl fbx)), (bqy, .inl (cI, 8, .inl fby))]) (wr := [(o, .inr (5, [.ref ga, .ref ba, .ref ua, .ref ma, .ref sa, .ref la, .ref pa, .ref wa, .int ce, .int he, .int lo, .int si, .int ti]))]) ⟨hx, hb, hml, hown, hts⟩ hK hP hD hS hA [1, 2, 3] [0] (k_X0_leaveClear l D cI cZ ba bqx bqy H.size bn fbx fby x y (200 : Int32) (by assumption)) (cwV 3 hts gX5_safe_X0_leaveClear rfl rfl rfl (by decide +kernel) ⟨(Nat.le_of_ble_eq_true rfl), (Nat.le_of_ble_eq_true rfl)⟩) rfl rfl (by decide) (by decide) (by decide) 0 0 rfl rfl rfl rfl hl.1 rfl (Nat.le_of_ble_eq_true rfl) dX5_safe_17 ⟨(Nat.le_of_ble_eq_true rfl), (Nat.le_of_ble_eq_true rfl)⟩ (fun r_4 u H locs hw_5 hP hD hS => ?_)
    have hw_5 : (f_X0_leaveClear bn fbx fby x y (200 : Int32)) = r_4 := (hw_5 : r_4 = (f_X0_leaveClear bn fbx fby x y (200 : Int32))).symm
    subst hw_5
    have hP : va_P D vwCl [(o, .inr (5, [.ref ga, .ref ba, .ref ua, .ref ma, .ref sa, .ref la, .ref pa, .ref wa, .int ce, .int he, .int lo, .int si, .int ti])), (ba, .inr (0, [.ref bqx, .ref bqy, .int bn])), (bqx, .inl (cI, 8, .inl fbx)), (bqy, .inl (cI, 8, .inl fby))] H := hP
    have hD : va_D A [(o, .inr (5, [.ref ga, .ref ba, .ref ua, .ref ma, .ref sa, .ref la, .ref pa, .ref wa, .int ce, .int he, .int lo, .int si, .int ti])), (ba, .inr (0, [.ref bqx, .ref bqy, .int bn])), (bqx, .inl (cI, 8, .inl fbx)), (bqy, .inl (cI, 8, .inl fby))] := hD
    refine lv_if_eq (tgt := 27) hx hb dX5_safe_20 (by decide) (fun c_6 => ?_) (fun c_6 => ?_)
    · refine lv_iconst (v := 0) hx hb dX5_safe_27 (by decide) ?_
      exact kk_rz () hx hb hr hlk dX5_safe_28 hS (hP.sub [0, 1, 2, 3] rfl) (hD.sub [0, 1, 2, 3] (by decide) rfl) rfl (by show (0 : Int32) = f_X5_safe ce he lo si ti bn fbx fby x y; unfold f_X5_safe; rw [if_neg c_3]; rw [if_pos c_6]; try rfl)
    · refine lv_iconst (v := 1) hx hb dX5_safe_23 (by decide) ?_
      refine lv_goto (tgt := 28) hx hb dX5_safe_24 (by decide) ?_
      exact kk_rz () hx hb hr hlk dX5_safe_28 hS (hP.sub [0, 1, 2, 3] rfl) (hD.sub [0, 1, 2, 3] (by decide) rfl) rfl (by show (1 : Int32) = f_X5_safe ce he lo si ti bn fbx fby x y; unfold f_X5_safe; rw [if_neg c_3]; rw [if_neg c_6]; try rfl)
def f_X5_change (ce : Int32) (he : Int32) (lo : Int32) (si : Int32) (ti : Int32) (lm : Int32) (lf : Int32) (flc : Nat → Int32) (k : Int32) : Int32 := (if (f_X5_isWithin k (0 : Int32) (15 : Int32)) = (0 : Int32) then (-1 : Int32) else (flc k.toNatClampNeg))
set_option maxHeartbeats 4000000 in
set_option maxRecDepth 100000 in
theorem k_X5_change (l : Launch) (D : va_G) (cI cZ : ClassId) (o : Nat) (ga : Nat) (ba : Nat) (ua : Nat) (ma : Nat) (sa : Nat) (la : Nat) (pa : Nat) (wa : Nat) (lc : Nat) (sz : Nat) (ce : Int32) (he : Int32) (lo : Int32) (si : Int32) (ti : Int32) (lm : Int32) (lf : Int32) (flc : Nat → Int32) (k : Int32)  : kk_Mi l D cI cZ yX5_change wsX5_change ({ frames := 1, cells := 0, slots := 0, locals := 22 } : Room) [.ref o, .int k] sz [(o, .inr (5, [.ref ga, .ref ba, .ref ua, .ref ma, .ref sa, .ref la, .ref pa, .ref wa, .int ce, .int he, .int lo, .int si, .int ti])), (la, .inr (2, [.ref lc, .int lm, .int lf])), (lc, .inl (cI, 16, .inl flc))] (fun (r : Int32) (_ : Unit) => r = f_X5_change ce he lo si ti lm lf flc k) (fun _ => [(o, .inr (5, [.ref ga, .ref ba, .ref ua, .ref ma, .ref sa, .ref la, .ref pa, .ref wa, .int ce, .int he, .int lo, .int si, .int ti])), (la, .inr (2, [.ref lc, .int lm, .int lf])), (lc, .inl (cI, 16, .inl flc))]) 0 0 := by
  refine kk_enti (cc := cX5_change) (maxL := 2) (ret := (some .int)) (by decide +kernel) rfl (Nat.le_of_ble_eq_true rfl) (fun p e s m args below meth c A ls hX hP hD hS hl => ?_)
  obtain ⟨hx, hb, hml, hown, hts, hr, hlk, hnm, hK, hA⟩ := hX
  have hown : s.vm.findClass RX5 = some m.cls := hown
  have hiX2 : ∀ w ∈ wsX20, w ∈ wsX5_change := by decide +kernel
  have hiX5 : ∀ w ∈ wsX50, w ∈ wsX5_change := by decide +kernel
  have hl : lv_has ls 2 [(0, .ref o), (1, .int k)] := hl
  refine lv_iload_n hx hb dX5_change_0 rfl (lv_at hl 1 rfl) ?_
  refine lv_iconst (v := 0) hx hb dX5_change_1 (by decide) ?_
  refine lv_bipush (v := 15) hx hb dX5_change_2 (by decide) ?_
  refine kk_cSi (wc := []) (wr := [(o, .inr (5, [.ref ga, .ref ba, .ref ua, .ref ma, .ref sa, .ref la, .ref pa, .ref wa, .int ce, .int he, .int lo, .int si, .int ti])), (la, .inr (2, [.ref lc, .int lm, .int lf])), (lc, .inl (cI, 16, .inl flc))]) ⟨hx, hb, hml, hown, hts⟩ hK hP hD hS hA [] [0, 1, 2] (k_X5_isWithin l D cI cZ  s.heap.size k (0 : Int32) (15 : Int32)) (va_cwS 3 hts gX5_change_X5_isWithin rfl rfl rfl (by decide +kernel) ⟨(Nat.le_of_ble_eq_true rfl), (Nat.le_of_ble_eq_true rfl)⟩) rfl rfl (by decide) (by decide) (by decide) rfl hl.1 rfl (Nat.le_of_ble_eq_true rfl) dX5_change_4 ⟨(Nat.le_of_ble_eq_true rfl), (Nat.le_of_ble_eq_true rfl)⟩ (fun r_1 u H locs hw_2 hP hD hS => ?_)
  have hw_2 : (f_X5_isWithin k (0 : Int32) (15 : Int32)) = r_1 := (hw_2 : r_1 = (f_X5_isWithin k (0 : Int32) (15 : Int32))).symm
  subst hw_2
  have hP : va_P D vwCl [(o, .inr (5, [.ref ga, .ref ba, .ref ua, .ref ma, .ref sa, .ref la, .ref pa, .ref wa, .int ce, .int he, .int lo, .int si, .int ti])), (la, .inr (2, [.ref lc, .int lm, .int lf])), (lc, .inl (cI, 16, .inl flc))] H := hP
  have hD : va_D A [(o, .inr (5, [.ref ga, .ref ba, .ref ua, .ref ma, .ref sa, .ref la, .ref pa, .ref wa, .int ce, .int he, .int lo, .int si, .int ti])), (la, .inr (2, [.ref lc, .int lm, .int lf])), (lc, .inl (cI, 16, .inl flc))] := hD
  refine lv_if_eq (tgt := 22) hx hb dX5_change_7 (by decide) (fun c_3 => ?_) (fun c_3 => ?_)
  · refine lv_iconst (v := -1) hx hb dX5_change_22 (by decide) ?_
    exact kk_ri () hx hb hr hlk dX5_change_23 hS (hP.sub [0, 1, 2] rfl) (hD.sub [0, 1, 2] (by decide) rfl) (by show (-1 : Int32) = f_X5_change ce he lo si ti lm lf flc k; unfold f_X5_change; rw [if_pos c_3]; try rfl)
  · refine lv_aload_n hx hb dX5_change_10 rfl (lv_at hl 0 rfl) ?_
    refine va_get (D := D) hx hb hts hiX5 hown hK.1 hP 0 rfl rfl 5 (by decide) (hts (.fieldLink RX5 43 "FencePilot" "modes" "LFencePilot$ModeLog;") (by decide +kernel)) (fun _ h9 => h9) rfl dX5_change_11 ?_
    refine va_getN (D := D) hx hb hts hiX2 hown hK.1 hP 1 rfl rfl 0 (by decide) (va_Nw.use rfl hK.2.2.2.2.1) (fun _ h9 => h9) rfl dX5_change_14 ?_
    refine lv_iload_n hx hb dX5_change_17 rfl (lv_at hl 1 rfl) ?_
    refine va_iald hx hb hK.1 hP 2 0 rfl rfl (kk_Lix' (kk_withinL (b := 15) c_3 rfl (by decide)) (by decide)) dX5_change_18 ?_
    refine lv_goto (tgt := 23) hx hb dX5_change_19 (by decide) ?_
    exact kk_ri () hx hb hr hlk dX5_change_23 hS (hP.sub [0, 1, 2] rfl) (hD.sub [0, 1, 2] (by decide) rfl) (by show (flc k.toNatClampNeg) = f_X5_change ce he lo si ti lm lf flc k; unfold f_X5_change; rw [if_neg c_3]; try rfl)
