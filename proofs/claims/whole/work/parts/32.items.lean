def f_X1_isEmpty (cn : Int32) : Int32 := (if cn = (0 : Int32) then (1 : Int32) else (0 : Int32))
set_option maxHeartbeats 4000000 in
set_option maxRecDepth 100000 in
theorem k_X1_isEmpty (l : Launch) (D : va_G) (cI cZ : ClassId) (q0 : Nat) (q1 : Nat) (sz : Nat) (cn : Int32)   : kk_Mi l D cI cZ yX1_isEmpty wsX1_isEmpty ({ frames := 0, cells := 0, slots := 0, locals := 0 } : Room) [.ref q0] sz [(q0, .inr (1, [.ref q1, .int cn]))] (fun (r : Int32) (_ : Unit) => r = f_X1_isEmpty cn) (fun _ => [(q0, .inr (1, [.ref q1, .int cn]))]) 0 0 := by
  refine kk_enti (cc := cX1_isEmpty) (maxL := 1) (ret := (some .boolean)) (by decide +kernel) rfl (Nat.le_of_ble_eq_true rfl) (fun p e s m args below meth c A ls hX hP hD hS hl => ?_)
  obtain ⟨hx, hb, hml, hown, hts, hr, hlk, hnm, hK, hA⟩ := hX
  have hown : s.vm.findClass RX1 = some m.cls := hown
  have hiX1 : ∀ w ∈ wsX10, w ∈ wsX1_isEmpty := by decide +kernel
  have hl : lv_has ls 1 [(0, .ref q0)] := hl
  refine lv_aload_n hx hb dX1_isEmpty_0 rfl (lv_at hl 0 rfl) ?_
  refine va_get (D := D) hx hb hts hiX1 hown hK.1 hP 0 rfl rfl 1 (by decide) (hts (.fieldLink RX1 15 "FencePilot$Items" "count" "I") (by decide +kernel)) (fun _ h9 => h9) rfl dX1_isEmpty_1 ?_
  refine lv_if_ne (tgt := 11) hx hb dX1_isEmpty_4 (by decide) (fun c_1 => ?_) (fun c_1 => ?_)
  · refine lv_iconst (v := 0) hx hb dX1_isEmpty_11 (by decide) ?_
    exact kk_rz () hx hb hr hlk dX1_isEmpty_12 hS (hP.sub [0] rfl) (hD.sub [0] (by decide) rfl) rfl (by show (0 : Int32) = f_X1_isEmpty cn; unfold f_X1_isEmpty; rw [if_neg c_1]; try rfl)
  · refine lv_iconst (v := 1) hx hb dX1_isEmpty_7 (by decide) ?_
    refine lv_goto (tgt := 12) hx hb dX1_isEmpty_8 (by decide) ?_
    exact kk_rz () hx hb hr hlk dX1_isEmpty_12 hS (hP.sub [0] rfl) (hD.sub [0] (by decide) rfl) rfl (by show (1 : Int32) = f_X1_isEmpty cn; unfold f_X1_isEmpty; rw [if_pos c_1]; try rfl)
def f_X1_clear (cn : Int32) : Int32 := (0 : Int32)
set_option maxHeartbeats 4000000 in
set_option maxRecDepth 100000 in
theorem k_X1_clear (l : Launch) (D : va_G) (cI cZ : ClassId) (q0 : Nat) (q1 : Nat) (sz : Nat) (cn : Int32)   : kk_Mv l D cI cZ yX1_clear wsX1_clear ({ frames := 0, cells := 0, slots := 0, locals := 0 } : Room) [.ref q0] sz [(q0, .inr (1, [.ref q1, .int cn]))] (fun (u : Int32) => u = f_X1_clear cn) (fun u => [(q0, .inr (1, [.ref q1, .int u]))]) 0 0 := by
  refine kk_entv (cc := cX1_clear) (maxL := 1) (ret := none) (by decide +kernel) rfl (Nat.le_of_ble_eq_true rfl) (fun p e s m args below meth c A ls hX hP hD hS hl => ?_)
  obtain ⟨hx, hb, hml, hown, hts, hr, hlk, hnm, hK, hA⟩ := hX
  have hown : s.vm.findClass RX1 = some m.cls := hown
  have hiX1 : ∀ w ∈ wsX10, w ∈ wsX1_clear := by decide +kernel
  have hl : lv_has ls 1 [(0, .ref q0)] := hl
  refine lv_aload_n hx hb dX1_clear_0 rfl (lv_at hl 0 rfl) ?_
  refine lv_iconst (v := 0) hx hb dX1_clear_1 (by decide) ?_
  refine va_put (D := D) (ci := 1) (v := .int (0 : Int32)) (ty := .int) (C := RX1) (T := TX1) (N := 2) hx hb hts hiX1 tyX1 tyX1_ok nmX1 hown hK.1 hP hD hS 0 rfl rfl 1 (by decide) (hts (.fieldLink RX1 15 "FencePilot$Items" "count" "I") (by decide +kernel)) (fun _ h9 => h9) rfl (by decide +kernel) rfl rfl (Nat.le_of_ble_eq_true rfl) dX1_clear_2 (fun H locs hP hD hS => ?_)
  have hP : va_P D vwCl [(q0, .inr (1, [.ref q1, .int (0 : Int32)]))] H := hP
  have hD : va_D A [(q0, .inr (1, [.ref q1, .int (0 : Int32)]))] := hD
  exact kk_rv (0 : Int32) hx hb hr hlk dX1_clear_5 hS (hP.sub [0] rfl) (hD.sub [0] (by decide) rfl) (by show (0 : Int32) = f_X1_clear cn; unfold f_X1_clear; rfl)
def f_X1_add (cn : Int32) (fr : Nat → Int32) (x : Int32) (y : Int32) (z : Int32) : (Nat → Int32) × Int32 := (if (8 : Int32) ≤ cn then (fr, cn) else ((upd (upd (upd fr ((cn * (3 : Int32)) + (0 : Int32)).toNatClampNeg x) ((cn * (3 : Int32)) + (1 : Int32)).toNatClampNeg y) ((cn * (3 : Int32)) + (2 : Int32)).toNatClampNeg z), (cn + (1 : Int32))))
set_option maxHeartbeats 4000000 in
set_option maxRecDepth 100000 in
theorem k_X1_add (l : Launch) (D : va_G) (cI cZ : ClassId) (q0 : Nat) (q1 : Nat) (sz : Nat) (cn : Int32) (fr : Nat → Int32) (x : Int32) (y : Int32) (z : Int32) (hcn : kk_L cn 8) : kk_Mv l D cI cZ yX1_add wsX1_add ({ frames := 0, cells := 0, slots := 0, locals := 0 } : Room) [.ref q0, .int x, .int y, .int z] sz [(q0, .inr (1, [.ref q1, .int cn])), (q1, .inl (cI, 24, .inl fr))] (fun (u : (Nat → Int32) × Int32) => u = f_X1_add cn fr x y z) (fun u => [(q0, .inr (1, [.ref q1, .int u.2])), (q1, .inl (cI, 24, .inl u.1))]) 0 0 := by
  refine kk_entv (cc := cX1_add) (maxL := 4) (ret := none) (by decide +kernel) rfl (Nat.le_of_ble_eq_true rfl) (fun p e s m args below meth c A ls hX hP hD hS hl => ?_)
  obtain ⟨hx, hb, hml, hown, hts, hr, hlk, hnm, hK, hA⟩ := hX
  have hown : s.vm.findClass RX1 = some m.cls := hown
  have hiX1 : ∀ w ∈ wsX10, w ∈ wsX1_add := by decide +kernel
  have hl : lv_has ls 4 [(0, .ref q0), (1, .int x), (2, .int y), (3, .int z)] := hl
  refine lv_aload_n hx hb dX1_add_0 rfl (lv_at hl 0 rfl) ?_
  refine va_get (D := D) hx hb hts hiX1 hown hK.1 hP 0 rfl rfl 1 (by decide) (hts (.fieldLink RX1 15 "FencePilot$Items" "count" "I") (by decide +kernel)) (fun _ h9 => h9) rfl dX1_add_1 ?_
  refine lv_bipush (v := 8) hx hb dX1_add_4 (by decide) ?_
  refine lv_icmp_ge (tgt := 61) hx hb dX1_add_6 (by decide) (fun c_1 => ?_) (fun c_1 => ?_)
  · exact kk_rv (fr, cn) hx hb hr hlk dX1_add_61 hS (hP.sub [0, 1] rfl) (hD.sub [0, 1] (by decide) rfl) (by show (fr, cn) = f_X1_add cn fr x y z; unfold f_X1_add; rw [if_pos c_1]; try rfl)
  · refine lv_aload_n hx hb dX1_add_9 rfl (lv_at hl 0 rfl) ?_
    refine va_get (D := D) hx hb hts hiX1 hown hK.1 hP 0 rfl rfl 0 (by decide) (hts (.fieldLink RX1 9 "FencePilot$Items" "row" "[I") (by decide +kernel)) (fun _ h9 => h9) rfl dX1_add_10 ?_
    refine lv_aload_n hx hb dX1_add_13 rfl (lv_at hl 0 rfl) ?_
    refine va_get (D := D) hx hb hts hiX1 hown hK.1 hP 0 rfl rfl 1 (by decide) (hts (.fieldLink RX1 15 "FencePilot$Items" "count" "I") (by decide +kernel)) (fun _ h9 => h9) rfl dX1_add_14 ?_
    refine lv_iconst (v := 3) hx hb dX1_add_17 (by decide) ?_
    refine lv_imul hx hb dX1_add_18 ?_
    refine lv_iconst (v := 0) hx hb dX1_add_19 (by decide) ?_
    refine lv_iadd hx hb dX1_add_20 ?_
    refine lv_iload_n hx hb dX1_add_21 rfl (lv_at hl 1 rfl) ?_
    refine va_iast hx hb hK.1 hP hD hS 1 0 rfl rfl (kk_Lix' (kk_L3 (kk_lt8 hcn c_1) (by decide) (j := 0) rfl (by decide) (by decide)) (by decide)) dX1_add_22 (fun H locs hP hD hS => ?_)
    have hP : va_P D vwCl [(q0, .inr (1, [.ref q1, .int cn])), (q1, .inl (cI, 24, .inl (upd fr ((cn * (3 : Int32)) + (0 : Int32)).toNatClampNeg x)))] H := hP
    have hD : va_D A [(q0, .inr (1, [.ref q1, .int cn])), (q1, .inl (cI, 24, .inl (upd fr ((cn * (3 : Int32)) + (0 : Int32)).toNatClampNeg x)))] := hD
    refine lv_aload_n hx hb dX1_add_23 rfl (lv_at hl 0 rfl) ?_
    refine va_get (D := D) hx hb hts hiX1 hown hK.1 hP 0 rfl rfl 0 (by decide) (hts (.fieldLink RX1 9 "FencePilot$Items" "row" "[I") (by decide +kernel)) (fun _ h9 => h9) rfl dX1_add_24 ?_
    refine lv_aload_n hx hb dX1_add_27 rfl (lv_at hl 0 rfl) ?_
    refine va_get (D := D) hx hb hts hiX1 hown hK.1 hP 0 rfl rfl 1 (by decide) (hts (.fieldLink RX1 15 "FencePilot$Items" "count" "I") (by decide +kernel)) (fun _ h9 => h9) rfl dX1_add_28 ?_
    refine lv_iconst (v := 3) hx hb dX1_add_31 (by decide) ?_
    refine lv_imul hx hb dX1_add_32 ?_
    refine lv_iconst (v := 1) hx hb dX1_add_33 (by decide) ?_
    refine lv_iadd hx hb dX1_add_34 ?_
    refine lv_iload_n hx hb dX1_add_35 rfl (lv_at hl 2 rfl) ?_
    refine va_iast hx hb hK.1 hP hD hS 1 0 rfl rfl (kk_Lix' (kk_L3 (kk_lt8 hcn c_1) (by decide) (j := 1) rfl (by decide) (by decide)) (by decide)) dX1_add_36 (fun H locs hP hD hS => ?_)
    have hP : va_P D vwCl [(q0, .inr (1, [.ref q1, .int cn])), (q1, .inl (cI, 24, .inl (upd (upd fr ((cn * (3 : Int32)) + (0 : Int32)).toNatClampNeg x) ((cn * (3 : Int32)) + (1 : Int32)).toNatClampNeg y)))] H := hP
    have hD : va_D A [(q0, .inr (1, [.ref q1, .int cn])), (q1, .inl (cI, 24, .inl (upd (upd fr ((cn * (3 : Int32)) + (0 : Int32)).toNatClampNeg x) ((cn * (3 : Int32)) + (1 : Int32)).toNatClampNeg y)))] := hD
    refine lv_aload_n hx hb dX1_add_37 rfl (lv_at hl 0 rfl) ?_
    refine va_get (D := D) hx hb hts hiX1 hown hK.1 hP 0 rfl rfl 0 (by decide) (hts (.fieldLink RX1 9 "FencePilot$Items" "row" "[I") (by decide +kernel)) (fun _ h9 => h9) rfl dX1_add_38 ?_
    refine lv_aload_n hx hb dX1_add_41 rfl (lv_at hl 0 rfl) ?_
    refine va_get (D := D) hx hb hts hiX1 hown hK.1 hP 0 rfl rfl 1 (by decide) (hts (.fieldLink RX1 15 "FencePilot$Items" "count" "I") (by decide +kernel)) (fun _ h9 => h9) rfl dX1_add_42 ?_
    refine lv_iconst (v := 3) hx hb dX1_add_45 (by decide) ?_
    refine lv_imul hx hb dX1_add_46 ?_
    refine lv_iconst (v := 2) hx hb dX1_add_47 (by decide) ?_
    refine lv_iadd hx hb dX1_add_48 ?_
    refine lv_iload_n hx hb dX1_add_49 rfl (lv_at hl 3 rfl) ?_
    refine va_iast hx hb hK.1 hP hD hS 1 0 rfl rfl (kk_Lix' (kk_L3 (kk_lt8 hcn c_1) (by decide) (j := 2) rfl (by decide) (by decide)) (by decide)) dX1_add_50 (fun H locs hP hD hS => ?_)
    have hP : va_P D vwCl [(q0, .inr (1, [.ref q1, .int cn])), (q1, .inl (cI, 24, .inl (upd (upd (upd fr ((cn * (3 : Int32)) + (0 : Int32)).toNatClampNeg x) ((cn * (3 : Int32)) + (1 : Int32)).toNatClampNeg y) ((cn * (3 : Int32)) + (2 : Int32)).toNatClampNeg z)))] H := hP
    have hD : va_D A [(q0, .inr (1, [.ref q1, .int cn])), (q1, .inl (cI, 24, .inl (upd (upd (upd fr ((cn * (3 : Int32)) + (0 : Int32)).toNatClampNeg x) ((cn * (3 : Int32)) + (1 : Int32)).toNatClampNeg y) ((cn * (3 : Int32)) + (2 : Int32)).toNatClampNeg z)))] := hD
    refine lv_aload_n hx hb dX1_add_51 rfl (lv_at hl 0 rfl) ?_
    refine lv_dup hx hb dX1_add_52 rfl ?_
    refine va_get (D := D) hx hb hts hiX1 hown hK.1 hP 0 rfl rfl 1 (by decide) (hts (.fieldLink RX1 15 "FencePilot$Items" "count" "I") (by decide +kernel)) (fun _ h9 => h9) rfl dX1_add_53 ?_
    refine lv_iconst (v := 1) hx hb dX1_add_56 (by decide) ?_
    refine lv_iadd hx hb dX1_add_57 ?_
    refine va_put (D := D) (ci := 1) (v := .int (cn + (1 : Int32))) (ty := .int) (C := RX1) (T := TX1) (N := 2) hx hb hts hiX1 tyX1 tyX1_ok nmX1 hown hK.1 hP hD hS 0 rfl rfl 1 (by decide) (hts (.fieldLink RX1 15 "FencePilot$Items" "count" "I") (by decide +kernel)) (fun _ h9 => h9) rfl (by decide +kernel) rfl rfl (Nat.le_of_ble_eq_true rfl) dX1_add_58 (fun H locs hP hD hS => ?_)
    have hP : va_P D vwCl [(q0, .inr (1, [.ref q1, .int (cn + (1 : Int32))])), (q1, .inl (cI, 24, .inl (upd (upd (upd fr ((cn * (3 : Int32)) + (0 : Int32)).toNatClampNeg x) ((cn * (3 : Int32)) + (1 : Int32)).toNatClampNeg y) ((cn * (3 : Int32)) + (2 : Int32)).toNatClampNeg z)))] H := hP
    have hD : va_D A [(q0, .inr (1, [.ref q1, .int (cn + (1 : Int32))])), (q1, .inl (cI, 24, .inl (upd (upd (upd fr ((cn * (3 : Int32)) + (0 : Int32)).toNatClampNeg x) ((cn * (3 : Int32)) + (1 : Int32)).toNatClampNeg y) ((cn * (3 : Int32)) + (2 : Int32)).toNatClampNeg z)))] := hD
    exact kk_rv ((upd (upd (upd fr ((cn * (3 : Int32)) + (0 : Int32)).toNatClampNeg x) ((cn * (3 : Int32)) + (1 : Int32)).toNatClampNeg y) ((cn * (3 : Int32)) + (2 : Int32)).toNatClampNeg z), (cn + (1 : Int32))) hx hb hr hlk dX1_add_61 hS (hP.sub [0, 1] rfl) (hD.sub [0, 1] (by decide) rfl) (by show ((upd (upd (upd fr ((cn * (3 : Int32)) + (0 : Int32)).toNatClampNeg x) ((cn * (3 : Int32)) + (1 : Int32)).toNatClampNeg y) ((cn * (3 : Int32)) + (2 : Int32)).toNatClampNeg z), (cn + (1 : Int32))) = f_X1_add cn fr x y z; unfold f_X1_add; rw [if_neg c_1]; try rfl)
def f_X1_read (cn : Int32) (fr : Nat → Int32) (k : Int32) (axis : Int32) : Int32 := (if (f_X5_isWithin k (0 : Int32) (cn - (1 : Int32))) = (0 : Int32) then (0 : Int32) else (fr ((k * (3 : Int32)) + axis).toNatClampNeg))
set_option maxHeartbeats 4000000 in
set_option maxRecDepth 100000 in
theorem k_X1_read (l : Launch) (D : va_G) (cI cZ : ClassId) (q0 : Nat) (q1 : Nat) (sz : Nat) (cn : Int32) (fr : Nat → Int32) (k : Int32) (axis : Int32) (hcn : kk_L cn 8) (hax : kk_L axis 2) : kk_Mi l D cI cZ yX1_read wsX1_read ({ frames := 1, cells := 0, slots := 0, locals := 22 } : Room) [.ref q0, .int k, .int axis] sz [(q0, .inr (1, [.ref q1, .int cn])), (q1, .inl (cI, 24, .inl fr))] (fun (r : Int32) (_ : Unit) => r = f_X1_read cn fr k axis) (fun _ => [(q0, .inr (1, [.ref q1, .int cn])), (q1, .inl (cI, 24, .inl fr))]) 0 0 := by
  refine kk_enti (cc := cX1_read) (maxL := 3) (ret := (some .int)) (by decide +kernel) rfl (Nat.le_of_ble_eq_true rfl) (fun p e s m args below meth c A ls hX hP hD hS hl => ?_)
  obtain ⟨hx, hb, hml, hown, hts, hr, hlk, hnm, hK, hA⟩ := hX
  have hown : s.vm.findClass RX1 = some m.cls := hown
  have hiX1 : ∀ w ∈ wsX10, w ∈ wsX1_read := by decide +kernel
  have hl : lv_has ls 3 [(0, .ref q0), (1, .int k), (2, .int axis)] := hl
  refine lv_iload_n hx hb dX1_read_0 rfl (lv_at hl 1 rfl) ?_
  refine lv_iconst (v := 0) hx hb dX1_read_1 (by decide) ?_
  refine lv_aload_n hx hb dX1_read_2 rfl (lv_at hl 0 rfl) ?_
  refine va_get (D := D) hx hb hts hiX1 hown hK.1 hP 0 rfl rfl 1 (by decide) (hts (.fieldLink RX1 15 "FencePilot$Items" "count" "I") (by decide +kernel)) (fun _ h9 => h9) rfl dX1_read_3 ?_
  refine lv_iconst (v := 1) hx hb dX1_read_6 (by decide) ?_
  refine lv_isub hx hb dX1_read_7 ?_
  refine kk_cNi (wc := []) (wr := [(q0, .inr (1, [.ref q1, .int cn])), (q1, .inl (cI, 24, .inl fr))]) ⟨hx, hb, hml, hown, hts⟩ hK hP hD hS hA [] [0, 1] (k_X5_isWithin l D cI cZ  s.heap.size k (0 : Int32) (cn - (1 : Int32))) ⟨va_cnB (host := "FencePilot") 3 hts ggX1_read_X5_isWithin rfl rfl rfl hK.2.2.2.2.2.2.2.2 (hts (.initialized RX5) (by decide +kernel)) (by decide +kernel) ⟨(Nat.le_of_ble_eq_true rfl), (Nat.le_of_ble_eq_true rfl)⟩, hts (.static yX5_isWithin) (by decide +kernel), trivial⟩ rfl rfl (by decide) (by decide) (by decide) rfl hl.1 rfl (Nat.le_of_ble_eq_true rfl) dX1_read_8 ⟨(Nat.le_of_ble_eq_true rfl), (Nat.le_of_ble_eq_true rfl)⟩ (fun r_1 u H locs hw_2 hP hD hS => ?_)
  have hw_2 : (f_X5_isWithin k (0 : Int32) (cn - (1 : Int32))) = r_1 := (hw_2 : r_1 = (f_X5_isWithin k (0 : Int32) (cn - (1 : Int32)))).symm
  subst hw_2
  have hP : va_P D vwCl [(q0, .inr (1, [.ref q1, .int cn])), (q1, .inl (cI, 24, .inl fr))] H := hP
  have hD : va_D A [(q0, .inr (1, [.ref q1, .int cn])), (q1, .inl (cI, 24, .inl fr))] := hD
  refine lv_if_eq (tgt := 27) hx hb dX1_read_11 (by decide) (fun c_3 => ?_) (fun c_3 => ?_)
  · refine lv_iconst (v := 0) hx hb dX1_read_27 (by decide) ?_
    exact kk_ri () hx hb hr hlk dX1_read_28 hS (hP.sub [0, 1] rfl) (hD.sub [0, 1] (by decide) rfl) (by show (0 : Int32) = f_X1_read cn fr k axis; unfold f_X1_read; rw [if_pos c_3]; try rfl)
  · refine lv_aload_n hx hb dX1_read_14 rfl (lv_at hl 0 rfl) ?_
    refine va_get (D := D) hx hb hts hiX1 hown hK.1 hP 0 rfl rfl 0 (by decide) (hts (.fieldLink RX1 9 "FencePilot$Items" "row" "[I") (by decide +kernel)) (fun _ h9 => h9) rfl dX1_read_15 ?_
    refine lv_iload_n hx hb dX1_read_18 rfl (lv_at hl 1 rfl) ?_
    refine lv_iconst (v := 3) hx hb dX1_read_19 (by decide) ?_
    refine lv_imul hx hb dX1_read_20 ?_
    refine lv_iload_n hx hb dX1_read_21 rfl (lv_at hl 2 rfl) ?_
    refine lv_iadd hx hb dX1_read_22 ?_
    refine va_iald hx hb hK.1 hP 1 0 rfl rfl (kk_Lix' (kk_L3v (kk_withinL (b := 7) c_3 rfl (by rw [kk_dec hcn]; have := hcn.2; omega)) (by decide) hax (by decide)) (by decide)) dX1_read_23 ?_
    refine lv_goto (tgt := 28) hx hb dX1_read_24 (by decide) ?_
    exact kk_ri () hx hb hr hlk dX1_read_28 hS (hP.sub [0, 1] rfl) (hD.sub [0, 1] (by decide) rfl) (by show (fr ((k * (3 : Int32)) + axis).toNatClampNeg) = f_X1_read cn fr k axis; unfold f_X1_read; rw [if_neg c_3]; try rfl)
def f_X1_copyFrom (cn : Int32) (fr : Nat → Int32) (gn : Int32) (gr : Nat → Int32) : (Nat → Int32) × Int32 := ((va_cpy gr fr (0 : Int32).toNatClampNeg (0 : Int32).toNatClampNeg (24 : Int32).toNatClampNeg), gn)
set_option maxHeartbeats 4000000 in
set_option maxRecDepth 100000 in
theorem k_X1_copyFrom (l : Launch) (D : va_G) (cI cZ : ClassId) (q0 : Nat) (q1 : Nat) (r0 : Nat) (r1 : Nat) (sz : Nat) (cn : Int32) (fr : Nat → Int32) (gn : Int32) (gr : Nat → Int32)   : kk_Mv l D cI cZ yX1_copyFrom wsX1_copyFrom ({ frames := 1, cells := 0, slots := 0, locals := 18 } : Room) [.ref q0, .ref r0] sz [(q0, .inr (1, [.ref q1, .int cn])), (q1, .inl (cI, 24, .inl fr)), (r0, .inr (1, [.ref r1, .int gn])), (r1, .inl (cI, 24, .inl gr))] (fun (u : (Nat → Int32) × Int32) => u = f_X1_copyFrom cn fr gn gr) (fun u => [(q0, .inr (1, [.ref q1, .int u.2])), (q1, .inl (cI, 24, .inl u.1)), (r0, .inr (1, [.ref r1, .int gn])), (r1, .inl (cI, 24, .inl gr))]) 0 0 := by
  refine kk_entv (cc := cX1_copyFrom) (maxL := 2) (ret := none) (by decide +kernel) rfl (Nat.le_of_ble_eq_true rfl) (fun p e s m args below meth c A ls hX hP hD hS hl => ?_)
  obtain ⟨hx, hb, hml, hown, hts, hr, hlk, hnm, hK, hA⟩ := hX
  have hown : s.vm.findClass RX1 = some m.cls := hown
  have hiX1 : ∀ w ∈ wsX10, w ∈ wsX1_copyFrom := by decide +kernel
  have hl : lv_has ls 2 [(0, .ref q0), (1, .ref r0)] := hl
  refine lv_aload_n hx hb dX1_copyFrom_0 rfl (lv_at hl 1 rfl) ?_
  refine va_get (D := D) hx hb hts hiX1 hown hK.1 hP 2 rfl rfl 0 (by decide) (hts (.fieldLink RX1 9 "FencePilot$Items" "row" "[I") (by decide +kernel)) (fun _ h9 => h9) rfl dX1_copyFrom_1 ?_
  refine lv_iconst (v := 0) hx hb dX1_copyFrom_4 (by decide) ?_
  refine lv_aload_n hx hb dX1_copyFrom_5 rfl (lv_at hl 0 rfl) ?_
  refine va_get (D := D) hx hb hts hiX1 hown hK.1 hP 0 rfl rfl 0 (by decide) (hts (.fieldLink RX1 9 "FencePilot$Items" "row" "[I") (by decide +kernel)) (fun _ h9 => h9) rfl dX1_copyFrom_6 ?_
  refine lv_iconst (v := 0) hx hb dX1_copyFrom_9 (by decide) ?_
  refine lv_aload_n hx hb dX1_copyFrom_10 rfl (lv_at hl 0 rfl) ?_
  refine va_get (D := D) hx hb hts hiX1 hown hK.1 hP 0 rfl rfl 0 (by decide) (hts (.fieldLink RX1 9 "FencePilot$Items" "row" "[I") (by decide +kernel)) (fun _ h9 => h9) rfl dX1_copyFrom_11 ?_
  refine va_alen (v := 24) hx hb hK.1 hP 1 0 rfl rfl rfl dX1_copyFrom_14 ?_
  refine va_copyi hx hb (hml.trans hl.1.symm) hown (hts (.methodLink RX1 23 arraycopyName) (by decide +kernel)) (hts (.native arraycopyName) (by decide +kernel)) (hts (.static arraycopyName) (by decide +kernel)) (hts (.initialized "java/lang/System") (by decide +kernel)) hK.1 hP hD hS 3 1 0 0 rfl rfl rfl rfl rfl (by decide) (by decide) (by decide) (by decide) (by decide) (fun _ _ => rfl) (Nat.le_of_ble_eq_true rfl) (Nat.le_of_ble_eq_true rfl) dX1_copyFrom_15 (fun H locs hP hD hS => ?_)
  have hP : va_P D vwCl [(q0, .inr (1, [.ref q1, .int cn])), (q1, .inl (cI, 24, .inl (va_cpy gr fr (0 : Int32).toNatClampNeg (0 : Int32).toNatClampNeg (24 : Int32).toNatClampNeg))), (r0, .inr (1, [.ref r1, .int gn])), (r1, .inl (cI, 24, .inl gr))] H := hP
  have hD : va_D A [(q0, .inr (1, [.ref q1, .int cn])), (q1, .inl (cI, 24, .inl (va_cpy gr fr (0 : Int32).toNatClampNeg (0 : Int32).toNatClampNeg (24 : Int32).toNatClampNeg))), (r0, .inr (1, [.ref r1, .int gn])), (r1, .inl (cI, 24, .inl gr))] := hD
  refine lv_aload_n hx hb dX1_copyFrom_18 rfl (lv_at hl 0 rfl) ?_
  refine lv_aload_n hx hb dX1_copyFrom_19 rfl (lv_at hl 1 rfl) ?_
  refine va_get (D := D) hx hb hts hiX1 hown hK.1 hP 2 rfl rfl 1 (by decide) (hts (.fieldLink RX1 15 "FencePilot$Items" "count" "I") (by decide +kernel)) (fun _ h9 => h9) rfl dX1_copyFrom_20 ?_
  refine va_put (D := D) (ci := 1) (v := .int gn) (ty := .int) (C := RX1) (T := TX1) (N := 2) hx hb hts hiX1 tyX1 tyX1_ok nmX1 hown hK.1 hP hD hS 0 rfl rfl 1 (by decide) (hts (.fieldLink RX1 15 "FencePilot$Items" "count" "I") (by decide +kernel)) (fun _ h9 => h9) rfl (by decide +kernel) rfl rfl (Nat.le_of_ble_eq_true rfl) dX1_copyFrom_23 (fun H locs hP hD hS => ?_)
  have hP : va_P D vwCl [(q0, .inr (1, [.ref q1, .int gn])), (q1, .inl (cI, 24, .inl (va_cpy gr fr (0 : Int32).toNatClampNeg (0 : Int32).toNatClampNeg (24 : Int32).toNatClampNeg))), (r0, .inr (1, [.ref r1, .int gn])), (r1, .inl (cI, 24, .inl gr))] H := hP
  have hD : va_D A [(q0, .inr (1, [.ref q1, .int gn])), (q1, .inl (cI, 24, .inl (va_cpy gr fr (0 : Int32).toNatClampNeg (0 : Int32).toNatClampNeg (24 : Int32).toNatClampNeg))), (r0, .inr (1, [.ref r1, .int gn])), (r1, .inl (cI, 24, .inl gr))] := hD
  exact kk_rv ((va_cpy gr fr (0 : Int32).toNatClampNeg (0 : Int32).toNatClampNeg (24 : Int32).toNatClampNeg), gn) hx hb hr hlk dX1_copyFrom_26 hS (hP.sub [0, 1, 2, 3] rfl) (hD.sub [0, 1, 2, 3] (by decide) rfl) (by show ((va_cpy gr fr (0 : Int32).toNatClampNeg (0 : Int32).toNatClampNeg (24 : Int32).toNatClampNeg), gn) = f_X1_copyFrom cn fr gn gr; unfold f_X1_copyFrom; rfl)
def f_X4_begin (uw : Int32) (us : Int32) (ua : Int32) (up : Int32) (cn : Int32) (n : Int32) : Int32 × Int32 × Int32 × Int32 × Int32 := ((1 : Int32), n, (0 : Int32), (0 : Int32), (f_X1_clear cn))
set_option maxHeartbeats 4000000 in
set_option maxRecDepth 100000 in
theorem k_X4_begin (l : Launch) (D : va_G) (cI cZ : ClassId) (q0 : Nat) (q1 : Nat) (q2 : Nat) (sz : Nat) (uw : Int32) (us : Int32) (ua : Int32) (up : Int32) (cn : Int32) (n : Int32)  : kk_Mv l D cI cZ yX4_begin wsX4_begin ({ frames := 1, cells := 0, slots := 0, locals := 20 } : Room) [.ref q0, .int n] sz [(q0, .inr (4, [.ref q1, .int uw, .int us, .int ua, .int up])), (q1, .inr (1, [.ref q2, .int cn]))] (fun (u : Int32 × Int32 × Int32 × Int32 × Int32) => u = f_X4_begin uw us ua up cn n) (fun u => [(q0, .inr (4, [.ref q1, .int u.1, .int u.2.1, .int u.2.2.1, .int u.2.2.2.1])), (q1, .inr (1, [.ref q2, .int u.2.2.2.2]))]) 0 0 := by
  refine kk_entv (cc := cX4_begin) (maxL := 2) (ret := none) (by decide +kernel) rfl (Nat.le_of_ble_eq_true rfl) (fun p e s m args below meth c A ls hX hP hD hS hl => ?_)
  obtain ⟨hx, hb, hml, hown, hts, hr, hlk, hnm, hK, hA⟩ := hX
  have hown : s.vm.findClass RX4 = some m.cls := hown
  have hiX1 : ∀ w ∈ wsX10, w ∈ wsX4_begin := by decide +kernel
  have hiX4 : ∀ w ∈ wsX40, w ∈ wsX4_begin := by decide +kernel
  have hl : lv_has ls 2 [(0, .ref q0), (1, .int n)] := hl
  refine lv_aload_n hx hb dX4_begin_0 rfl (lv_at hl 0 rfl) ?_
  refine va_get (D := D) hx hb hts hiX4 hown hK.1 hP 0 rfl rfl 0 (by decide) (hts (.fieldLink RX4 12 "FencePilot$Upload" "brought" "LFencePilot$Items;") (by decide +kernel)) (fun _ h9 => h9) rfl dX4_begin_1 ?_
  refine kk_cVv (wc := [(q1, .inr (1, [.ref q2, .int cn]))]) (wr := [(q0, .inr (4, [.ref q1, .int uw, .int us, .int ua, .int up]))]) ⟨hx, hb, hml, hown, hts⟩ hK hP hD hS hA [1] [0] (k_X1_clear l D cI cZ q1 q2 s.heap.size cn) (cwV 0 hts gX4_begin_X1_clear rfl rfl rfl (by decide +kernel) ⟨(Nat.le_of_ble_eq_true rfl), (Nat.le_of_ble_eq_true rfl)⟩) rfl rfl (by decide) (by decide) (by decide) 0 1 rfl rfl rfl rfl hl.1 rfl (Nat.le_of_ble_eq_true rfl) dX4_begin_4 ⟨(Nat.le_of_ble_eq_true rfl), (Nat.le_of_ble_eq_true rfl)⟩ (fun u_1 H locs hw_3 hP hD hS => ?_)
  have hw_3 : (f_X1_clear cn) = u_1 := (hw_3 : u_1 = (f_X1_clear cn)).symm
  subst hw_3
  have hP : va_P D vwCl [(q0, .inr (4, [.ref q1, .int uw, .int us, .int ua, .int up])), (q1, .inr (1, [.ref q2, .int (f_X1_clear cn)]))] H := hP
  have hD : va_D A [(q0, .inr (4, [.ref q1, .int uw, .int us, .int ua, .int up])), (q1, .inr (1, [.ref q2, .int (f_X1_clear cn)]))] := hD
  refine lv_aload_n hx hb dX4_begin_7 rfl (lv_at hl 0 rfl) ?_
  refine lv_iconst (v := 1) hx hb dX4_begin_8 (by decide) ?_
  refine va_put (D := D) (ci := 4) (v := .int (1 : Int32)) (ty := .boolean) (C := RX4) (T := TX4) (N := 5) hx hb hts hiX4 tyX4 tyX4_ok nmX4 hown hK.1 hP hD hS 0 rfl rfl 1 (by decide) (hts (.fieldLink RX4 18 "FencePilot$Upload" "underWay" "Z") (by decide +kernel)) (fun _ h9 => h9) rfl (by decide +kernel) rfl rfl (Nat.le_of_ble_eq_true rfl) dX4_begin_9 (fun H locs hP hD hS => ?_)
  have hP : va_P D vwCl [(q0, .inr (4, [.ref q1, .int (1 : Int32), .int us, .int ua, .int up])), (q1, .inr (1, [.ref q2, .int (f_X1_clear cn)]))] H := hP
  have hD : va_D A [(q0, .inr (4, [.ref q1, .int (1 : Int32), .int us, .int ua, .int up])), (q1, .inr (1, [.ref q2, .int (f_X1_clear cn)]))] := hD
  refine lv_aload_n hx hb dX4_begin_12 rfl (lv_at hl 0 rfl) ?_
  refine lv_iload_n hx hb dX4_begin_13 rfl (lv_at hl 1 rfl) ?_
  refine va_put (D := D) (ci := 4) (v := .int n) (ty := .int) (C := RX4) (T := TX4) (N := 5) hx hb hts hiX4 tyX4 tyX4_ok nmX4 hown hK.1 hP hD hS 0 rfl rfl 2 (by decide) (hts (.fieldLink RX4 22 "FencePilot$Upload" "size" "I") (by decide +kernel)) (fun _ h9 => h9) rfl (by decide +kernel) rfl rfl (Nat.le_of_ble_eq_true rfl) dX4_begin_14 (fun H locs hP hD hS => ?_)
  have hP : va_P D vwCl [(q0, .inr (4, [.ref q1, .int (1 : Int32), .int n, .int ua, .int up])), (q1, .inr (1, [.ref q2, .int (f_X1_clear cn)]))] H := hP
  have hD : va_D A [(q0, .inr (4, [.ref q1, .int (1 : Int32), .int n, .int ua, .int up])), (q1, .inr (1, [.ref q2, .int (f_X1_clear cn)]))] := hD
  refine lv_aload_n hx hb dX4_begin_17 rfl (lv_at hl 0 rfl) ?_
  refine lv_iconst (v := 0) hx hb dX4_begin_18 (by decide) ?_
  refine va_put (D := D) (ci := 4) (v := .int (0 : Int32)) (ty := .int) (C := RX4) (T := TX4) (N := 5) hx hb hts hiX4 tyX4 tyX4_ok nmX4 hown hK.1 hP hD hS 0 rfl rfl 3 (by decide) (hts (.fieldLink RX4 26 "FencePilot$Upload" "age" "I") (by decide +kernel)) (fun _ h9 => h9) rfl (by decide +kernel) rfl rfl (Nat.le_of_ble_eq_true rfl) dX4_begin_19 (fun H locs hP hD hS => ?_)
  have hP : va_P D vwCl [(q0, .inr (4, [.ref q1, .int (1 : Int32), .int n, .int (0 : Int32), .int up])), (q1, .inr (1, [.ref q2, .int (f_X1_clear cn)]))] H := hP
  have hD : va_D A [(q0, .inr (4, [.ref q1, .int (1 : Int32), .int n, .int (0 : Int32), .int up])), (q1, .inr (1, [.ref q2, .int (f_X1_clear cn)]))] := hD
  refine lv_aload_n hx hb dX4_begin_22 rfl (lv_at hl 0 rfl) ?_
  refine lv_iconst (v := 0) hx hb dX4_begin_23 (by decide) ?_
  refine va_put (D := D) (ci := 4) (v := .int (0 : Int32)) (ty := .int) (C := RX4) (T := TX4) (N := 5) hx hb hts hiX4 tyX4 tyX4_ok nmX4 hown hK.1 hP hD hS 0 rfl rfl 4 (by decide) (hts (.fieldLink RX4 29 "FencePilot$Upload" "repeats" "I") (by decide +kernel)) (fun _ h9 => h9) rfl (by decide +kernel) rfl rfl (Nat.le_of_ble_eq_true rfl) dX4_begin_24 (fun H locs hP hD hS => ?_)
  have hP : va_P D vwCl [(q0, .inr (4, [.ref q1, .int (1 : Int32), .int n, .int (0 : Int32), .int (0 : Int32)])), (q1, .inr (1, [.ref q2, .int (f_X1_clear cn)]))] H := hP
  have hD : va_D A [(q0, .inr (4, [.ref q1, .int (1 : Int32), .int n, .int (0 : Int32), .int (0 : Int32)])), (q1, .inr (1, [.ref q2, .int (f_X1_clear cn)]))] := hD
  exact kk_rv ((1 : Int32), n, (0 : Int32), (0 : Int32), (f_X1_clear cn)) hx hb hr hlk dX4_begin_27 hS (hP.sub [0, 1] rfl) (hD.sub [0, 1] (by decide) rfl) (by show ((1 : Int32), n, (0 : Int32), (0 : Int32), (f_X1_clear cn)) = f_X4_begin uw us ua up cn n; unfold f_X4_begin; rfl)
def f_X4_end (uw : Int32) (us : Int32) (ua : Int32) (up : Int32) : Int32 := (0 : Int32)
set_option maxHeartbeats 4000000 in
set_option maxRecDepth 100000 in
theorem k_X4_end (l : Launch) (D : va_G) (cI cZ : ClassId) (q0 : Nat) (q1 : Nat) (sz : Nat) (uw : Int32) (us : Int32) (ua : Int32) (up : Int32)   : kk_Mv l D cI cZ yX4_end wsX4_end ({ frames := 0, cells := 0, slots := 0, locals := 0 } : Room) [.ref q0] sz [(q0, .inr (4, [.ref q1, .int uw, .int us, .int ua, .int up]))] (fun (u : Int32) => u = f_X4_end uw us ua up) (fun u => [(q0, .inr (4, [.ref q1, .int u, .int us, .int ua, .int up]))]) 0 0 := by
  refine kk_entv (cc := cX4_end) (maxL := 1) (ret := none) (by decide +kernel) rfl (Nat.le_of_ble_eq_true rfl) (fun p e s m args below meth c A ls hX hP hD hS hl => ?_)
  obtain ⟨hx, hb, hml, hown, hts, hr, hlk, hnm, hK, hA⟩ := hX
  have hown : s.vm.findClass RX4 = some m.cls := hown
  have hiX4 : ∀ w ∈ wsX40, w ∈ wsX4_end := by decide +kernel
  have hl : lv_has ls 1 [(0, .ref q0)] := hl
  refine lv_aload_n hx hb dX4_end_0 rfl (lv_at hl 0 rfl) ?_
  refine lv_iconst (v := 0) hx hb dX4_end_1 (by decide) ?_
  refine va_put (D := D) (ci := 4) (v := .int (0 : Int32)) (ty := .boolean) (C := RX4) (T := TX4) (N := 5) hx hb hts hiX4 tyX4 tyX4_ok nmX4 hown hK.1 hP hD hS 0 rfl rfl 1 (by decide) (hts (.fieldLink RX4 18 "FencePilot$Upload" "underWay" "Z") (by decide +kernel)) (fun _ h9 => h9) rfl (by decide +kernel) rfl rfl (Nat.le_of_ble_eq_true rfl) dX4_end_2 (fun H locs hP hD hS => ?_)
  have hP : va_P D vwCl [(q0, .inr (4, [.ref q1, .int (0 : Int32), .int us, .int ua, .int up]))] H := hP
  have hD : va_D A [(q0, .inr (4, [.ref q1, .int (0 : Int32), .int us, .int ua, .int up]))] := hD
  exact kk_rv (0 : Int32) hx hb hr hlk dX4_end_5 hS (hP.sub [0] rfl) (hD.sub [0] (by decide) rfl) (by show (0 : Int32) = f_X4_end uw us ua up; unfold f_X4_end; rfl)
def f_X4_next (uw : Int32) (us : Int32) (ua : Int32) (up : Int32) (cn : Int32) : Int32 := cn
set_option maxHeartbeats 4000000 in
set_option maxRecDepth 100000 in
theorem k_X4_next (l : Launch) (D : va_G) (cI cZ : ClassId) (q0 : Nat) (q1 : Nat) (q2 : Nat) (sz : Nat) (uw : Int32) (us : Int32) (ua : Int32) (up : Int32) (cn : Int32)   : kk_Mi l D cI cZ yX4_next wsX4_next ({ frames := 0, cells := 0, slots := 0, locals := 0 } : Room) [.ref q0] sz [(q0, .inr (4, [.ref q1, .int uw, .int us, .int ua, .int up])), (q1, .inr (1, [.ref q2, .int cn]))] (fun (r : Int32) (_ : Unit) => r = f_X4_next uw us ua up cn) (fun _ => [(q0, .inr (4, [.ref q1, .int uw, .int us, .int ua, .int up])), (q1, .inr (1, [.ref q2, .int cn]))]) 0 0 := by
  refine kk_enti (cc := cX4_next) (maxL := 1) (ret := (some .int)) (by decide +kernel) rfl (Nat.le_of_ble_eq_true rfl) (fun p e s m args below meth c A ls hX hP hD hS hl => ?_)
  obtain ⟨hx, hb, hml, hown, hts, hr, hlk, hnm, hK, hA⟩ := hX
  have hown : s.vm.findClass RX4 = some m.cls := hown
  have hiX1 : ∀ w ∈ wsX10, w ∈ wsX4_next := by decide +kernel
  have hiX4 : ∀ w ∈ wsX40, w ∈ wsX4_next := by decide +kernel
  have hl : lv_has ls 1 [(0, .ref q0)] := hl
  refine lv_aload_n hx hb dX4_next_0 rfl (lv_at hl 0 rfl) ?_
  refine va_get (D := D) hx hb hts hiX4 hown hK.1 hP 0 rfl rfl 0 (by decide) (hts (.fieldLink RX4 12 "FencePilot$Upload" "brought" "LFencePilot$Items;") (by decide +kernel)) (fun _ h9 => h9) rfl dX4_next_1 ?_
  refine va_getN (D := D) hx hb hts hiX1 hown hK.1 hP 1 rfl rfl 1 (by decide) (va_Nw.use rfl hK.2.2.2.2.2.2.2.1) (fun _ h9 => h9) rfl dX4_next_4 ?_
  exact kk_ri () hx hb hr hlk dX4_next_7 hS (hP.sub [0, 1] rfl) (hD.sub [0, 1] (by decide) rfl) (by show cn = f_X4_next uw us ua up cn; unfold f_X4_next; rfl)
def f_X4_isComplete (uw : Int32) (us : Int32) (ua : Int32) (up : Int32) (cn : Int32) : Int32 := (if cn < us then (0 : Int32) else (1 : Int32))
set_option maxHeartbeats 4000000 in
set_option maxRecDepth 100000 in
theorem k_X4_isComplete (l : Launch) (D : va_G) (cI cZ : ClassId) (q0 : Nat) (q1 : Nat) (q2 : Nat) (sz : Nat) (uw : Int32) (us : Int32) (ua : Int32) (up : Int32) (cn : Int32)   : kk_Mi l D cI cZ yX4_isComplete wsX4_isComplete ({ frames := 0, cells := 0, slots := 0, locals := 0 } : Room) [.ref q0] sz [(q0, .inr (4, [.ref q1, .int uw, .int us, .int ua, .int up])), (q1, .inr (1, [.ref q2, .int cn]))] (fun (r : Int32) (_ : Unit) => r = f_X4_isComplete uw us ua up cn) (fun _ => [(q0, .inr (4, [.ref q1, .int uw, .int us, .int ua, .int up])), (q1, .inr (1, [.ref q2, .int cn]))]) 0 0 := by
  refine kk_enti (cc := cX4_isComplete) (maxL := 1) (ret := (some .boolean)) (by decide +kernel) rfl (Nat.le_of_ble_eq_true rfl) (fun p e s m args below meth c A ls hX hP hD hS hl => ?_)
  obtain ⟨hx, hb, hml, hown, hts, hr, hlk, hnm, hK, hA⟩ := hX
  have hown : s.vm.findClass RX4 = some m.cls := hown
  have hiX1 : ∀ w ∈ wsX10, w ∈ wsX4_isComplete := by decide +kernel
  have hiX4 : ∀ w ∈ wsX40, w ∈ wsX4_isComplete := by decide +kernel
  have hl : lv_has ls 1 [(0, .ref q0)] := hl
  refine lv_aload_n hx hb dX4_isComplete_0 rfl (lv_at hl 0 rfl) ?_
  refine va_get (D := D) hx hb hts hiX4 hown hK.1 hP 0 rfl rfl 0 (by decide) (hts (.fieldLink RX4 12 "FencePilot$Upload" "brought" "LFencePilot$Items;") (by decide +kernel)) (fun _ h9 => h9) rfl dX4_isComplete_1 ?_
  refine va_getN (D := D) hx hb hts hiX1 hown hK.1 hP 1 rfl rfl 1 (by decide) (va_Nw.use rfl hK.2.2.2.2.2.2.2.1) (fun _ h9 => h9) rfl dX4_isComplete_4 ?_
  refine lv_aload_n hx hb dX4_isComplete_7 rfl (lv_at hl 0 rfl) ?_
  refine va_get (D := D) hx hb hts hiX4 hown hK.1 hP 0 rfl rfl 2 (by decide) (hts (.fieldLink RX4 22 "FencePilot$Upload" "size" "I") (by decide +kernel)) (fun _ h9 => h9) rfl dX4_isComplete_8 ?_
  refine lv_icmp_lt (tgt := 18) hx hb dX4_isComplete_11 (by decide) (fun c_1 => ?_) (fun c_1 => ?_)
  · refine lv_iconst (v := 0) hx hb dX4_isComplete_18 (by decide) ?_
    exact kk_rz () hx hb hr hlk dX4_isComplete_19 hS (hP.sub [0, 1] rfl) (hD.sub [0, 1] (by decide) rfl) rfl (by show (0 : Int32) = f_X4_isComplete uw us ua up cn; unfold f_X4_isComplete; rw [if_pos c_1]; try rfl)
  · refine lv_iconst (v := 1) hx hb dX4_isComplete_14 (by decide) ?_
    refine lv_goto (tgt := 19) hx hb dX4_isComplete_15 (by decide) ?_
    exact kk_rz () hx hb hr hlk dX4_isComplete_19 hS (hP.sub [0, 1] rfl) (hD.sub [0, 1] (by decide) rfl) rfl (by show (1 : Int32) = f_X4_isComplete uw us ua up cn; unfold f_X4_isComplete; rw [if_neg c_1]; try rfl)
def f_X4_keep (uw : Int32) (us : Int32) (ua : Int32) (up : Int32) (cn : Int32) (fr : Nat → Int32) (x : Int32) (y : Int32) (z : Int32) : (Nat → Int32) × Int32 × Int32 × Int32 := (match (f_X1_add cn fr x y z) with | (u_1, u_2) => (u_1, u_2, (0 : Int32), (0 : Int32)))
set_option maxHeartbeats 4000000 in
set_option maxRecDepth 100000 in
theorem k_X4_keep (l : Launch) (D : va_G) (cI cZ : ClassId) (q0 : Nat) (q1 : Nat) (q2 : Nat) (sz : Nat) (uw : Int32) (us : Int32) (ua : Int32) (up : Int32) (cn : Int32) (fr : Nat → Int32) (x : Int32) (y : Int32) (z : Int32) (hcn : kk_L cn 8) : kk_Mv l D cI cZ yX4_keep wsX4_keep ({ frames := 1, cells := 0, slots := 0, locals := 23 } : Room) [.ref q0, .int x, .int y, .int z] sz [(q0, .inr (4, [.ref q1, .int uw, .int us, .int ua, .int up])), (q1, .inr (1, [.ref q2, .int cn])), (q2, .inl (cI, 24, .inl fr))] (fun (u : (Nat → Int32) × Int32 × Int32 × Int32) => u = f_X4_keep uw us ua up cn fr x y z) (fun u => [(q0, .inr (4, [.ref q1, .int uw, .int us, .int u.2.2.1, .int u.2.2.2])), (q1, .inr (1, [.ref q2, .int u.2.1])), (q2, .inl (cI, 24, .inl u.1))]) 0 0 := by
  refine kk_entv (cc := cX4_keep) (maxL := 4) (ret := none) (by decide +kernel) rfl (Nat.le_of_ble_eq_true rfl) (fun p e s m args below meth c A ls hX hP hD hS hl => ?_)
  obtain ⟨hx, hb, hml, hown, hts, hr, hlk, hnm, hK, hA⟩ := hX
  have hown : s.vm.findClass RX4 = some m.cls := hown
  have hiX1 : ∀ w ∈ wsX10, w ∈ wsX4_keep := by decide +kernel
  have hiX4 : ∀ w ∈ wsX40, w ∈ wsX4_keep := by decide +kernel
  have hl : lv_has ls 4 [(0, .ref q0), (1, .int x), (2, .int y), (3, .int z)] := hl
  refine lv_aload_n hx hb dX4_keep_0 rfl (lv_at hl 0 rfl) ?_
  refine va_get (D := D) hx hb hts hiX4 hown hK.1 hP 0 rfl rfl 0 (by decide) (hts (.fieldLink RX4 12 "FencePilot$Upload" "brought" "LFencePilot$Items;") (by decide +kernel)) (fun _ h9 => h9) rfl dX4_keep_1 ?_
  refine lv_iload_n hx hb dX4_keep_4 rfl (lv_at hl 1 rfl) ?_
  refine lv_iload_n hx hb dX4_keep_5 rfl (lv_at hl 2 rfl) ?_
  refine lv_iload_n hx hb dX4_keep_6 rfl (lv_at hl 3 rfl) ?_
  refine kk_cVv (wc := [(q1, .inr (1, [.ref q2, .int cn])), (q2, .inl (cI, 24, .inl fr))]) (wr := [(q0, .inr (4, [.ref q1, .int uw, .int us, .int ua, .int up]))]) ⟨hx, hb, hml, hown, hts⟩ hK hP hD hS hA [1, 2] [0] (k_X1_add l D cI cZ q1 q2 s.heap.size cn fr x y z (by assumption)) (cwV 3 hts gX4_keep_X1_add rfl rfl rfl (by decide +kernel) ⟨(Nat.le_of_ble_eq_true rfl), (Nat.le_of_ble_eq_true rfl)⟩) rfl rfl (by decide) (by decide) (by decide) 0 1 rfl rfl rfl rfl hl.1 rfl (Nat.le_of_ble_eq_true rfl) dX4_keep_7 ⟨(Nat.le_of_ble_eq_true rfl), (Nat.le_of_ble_eq_true rfl)⟩ (fun u H locs hw_4 hP hD hS => ?_)
  obtain ⟨u_1, u_2⟩ := u
  have hw_4 : (u_1, u_2) = (f_X1_add cn fr x y z) := hw_4
  have hP : va_P D vwCl [(q0, .inr (4, [.ref q1, .int uw, .int us, .int ua, .int up])), (q1, .inr (1, [.ref q2, .int u_2])), (q2, .inl (cI, 24, .inl u_1))] H := hP
  have hD : va_D A [(q0, .inr (4, [.ref q1, .int uw, .int us, .int ua, .int up])), (q1, .inr (1, [.ref q2, .int u_2])), (q2, .inl (cI, 24, .inl u_1))] := hD
  refine lv_aload_n hx hb dX4_keep_10 rfl (lv_at hl 0 rfl) ?_
  refine lv_iconst (v := 0) hx hb dX4_keep_11 (by decide) ?_
  refine va_put (D := D) (ci := 4) (v := .int (0 : Int32)) (ty := .int) (C := RX4) (T := TX4) (N := 5) hx hb hts hiX4 tyX4 tyX4_ok nmX4 hown hK.1 hP hD hS 0 rfl rfl 3 (by decide) (hts (.fieldLink RX4 26 "FencePilot$Upload" "age" "I") (by decide +kernel)) (fun _ h9 => h9) rfl (by decide +kernel) rfl rfl (Nat.le_of_ble_eq_true rfl) dX4_keep_12 (fun H locs hP hD hS => ?_)
  have hP : va_P D vwCl [(q0, .inr (4, [.ref q1, .int uw, .int us, .int (0 : Int32), .int up])), (q1, .inr (1, [.ref q2, .int u_2])), (q2, .inl (cI, 24, .inl u_1))] H := hP
  have hD : va_D A [(q0, .inr (4, [.ref q1, .int uw, .int us, .int (0 : Int32), .int up])), (q1, .inr (1, [.ref q2, .int u_2])), (q2, .inl (cI, 24, .inl u_1))] := hD
  refine lv_aload_n hx hb dX4_keep_15 rfl (lv_at hl 0 rfl) ?_
  refine lv_iconst (v := 0) hx hb dX4_keep_16 (by decide) ?_
  refine va_put (D := D) (ci := 4) (v := .int (0 : Int32)) (ty := .int) (C := RX4) (T := TX4) (N := 5) hx hb hts hiX4 tyX4 tyX4_ok nmX4 hown hK.1 hP hD hS 0 rfl rfl 4 (by decide) (hts (.fieldLink RX4 29 "FencePilot$Upload" "repeats" "I") (by decide +kernel)) (fun _ h9 => h9) rfl (by decide +kernel) rfl rfl (Nat.le_of_ble_eq_true rfl) dX4_keep_17 (fun H locs hP hD hS => ?_)
  have hP : va_P D vwCl [(q0, .inr (4, [.ref q1, .int uw, .int us, .int (0 : Int32), .int (0 : Int32)])), (q1, .inr (1, [.ref q2, .int u_2])), (q2, .inl (cI, 24, .inl u_1))] H := hP
  have hD : va_D A [(q0, .inr (4, [.ref q1, .int uw, .int us, .int (0 : Int32), .int (0 : Int32)])), (q1, .inr (1, [.ref q2, .int u_2])), (q2, .inl (cI, 24, .inl u_1))] := hD
  exact kk_rv (u_1, u_2, (0 : Int32), (0 : Int32)) hx hb hr hlk dX4_keep_20 hS (hP.sub [0, 1, 2] rfl) (hD.sub [0, 1, 2] (by decide) rfl) (by show (u_1, u_2, (0 : Int32), (0 : Int32)) = f_X4_keep uw us ua up cn fr x y z; unfold f_X4_keep; rw [← hw_4]; try dsimp only; try rfl)
def f_X4_growOlder (uw : Int32) (us : Int32) (ua : Int32) (up : Int32) : Int32 × Int32 × Int32 := (if uw = (0 : Int32) then (uw, ua, up) else (if (ua + (1 : Int32)) < (10 : Int32) then (uw, (ua + (1 : Int32)), up) else (if (3 : Int32) ≤ (up + (1 : Int32)) then ((0 : Int32), (0 : Int32), (up + (1 : Int32))) else ((1 : Int32), (0 : Int32), (up + (1 : Int32))))))
set_option maxHeartbeats 4000000 in
set_option maxRecDepth 100000 in
theorem k_X4_growOlder (l : Launch) (D : va_G) (cI cZ : ClassId) (q0 : Nat) (q1 : Nat) (sz : Nat) (uw : Int32) (us : Int32) (ua : Int32) (up : Int32)   : kk_Mv l D cI cZ yX4_growOlder wsX4_growOlder ({ frames := 0, cells := 0, slots := 0, locals := 0 } : Room) [.ref q0] sz [(q0, .inr (4, [.ref q1, .int uw, .int us, .int ua, .int up]))] (fun (u : Int32 × Int32 × Int32) => u = f_X4_growOlder uw us ua up) (fun u => [(q0, .inr (4, [.ref q1, .int u.1, .int us, .int u.2.1, .int u.2.2]))]) 0 0 := by
  refine kk_entv (cc := cX4_growOlder) (maxL := 1) (ret := none) (by decide +kernel) rfl (Nat.le_of_ble_eq_true rfl) (fun p e s m args below meth c A ls hX hP hD hS hl => ?_)
  obtain ⟨hx, hb, hml, hown, hts, hr, hlk, hnm, hK, hA⟩ := hX
  have hown : s.vm.findClass RX4 = some m.cls := hown
  have hiX4 : ∀ w ∈ wsX40, w ∈ wsX4_growOlder := by decide +kernel
  have hl : lv_has ls 1 [(0, .ref q0)] := hl
  refine lv_aload_n hx hb dX4_growOlder_0 rfl (lv_at hl 0 rfl) ?_
  refine va_get (D := D) hx hb hts hiX4 hown hK.1 hP 0 rfl rfl 1 (by decide) (hts (.fieldLink RX4 18 "FencePilot$Upload" "underWay" "Z") (by decide +kernel)) (fun _ h9 => h9) rfl dX4_growOlder_1 ?_
  refine lv_if_ne (tgt := 8) hx hb dX4_growOlder_4 (by decide) (fun c_1 => ?_) (fun c_1 => ?_)
  · refine lv_aload_n hx hb dX4_growOlder_8 rfl (lv_at hl 0 rfl) ?_
    refine lv_dup hx hb dX4_growOlder_9 rfl ?_
    refine va_get (D := D) hx hb hts hiX4 hown hK.1 hP 0 rfl rfl 3 (by decide) (hts (.fieldLink RX4 26 "FencePilot$Upload" "age" "I") (by decide +kernel)) (fun _ h9 => h9) rfl dX4_growOlder_10 ?_
    refine lv_iconst (v := 1) hx hb dX4_growOlder_13 (by decide) ?_
    refine lv_iadd hx hb dX4_growOlder_14 ?_
    refine va_put (D := D) (ci := 4) (v := .int (ua + (1 : Int32))) (ty := .int) (C := RX4) (T := TX4) (N := 5) hx hb hts hiX4 tyX4 tyX4_ok nmX4 hown hK.1 hP hD hS 0 rfl rfl 3 (by decide) (hts (.fieldLink RX4 26 "FencePilot$Upload" "age" "I") (by decide +kernel)) (fun _ h9 => h9) rfl (by decide +kernel) rfl rfl (Nat.le_of_ble_eq_true rfl) dX4_growOlder_15 (fun H locs hP hD hS => ?_)
    have hP : va_P D vwCl [(q0, .inr (4, [.ref q1, .int uw, .int us, .int (ua + (1 : Int32)), .int up]))] H := hP
    have hD : va_D A [(q0, .inr (4, [.ref q1, .int uw, .int us, .int (ua + (1 : Int32)), .int up]))] := hD
    refine lv_aload_n hx hb dX4_growOlder_18 rfl (lv_at hl 0 rfl) ?_
    refine va_get (D := D) hx hb hts hiX4 hown hK.1 hP 0 rfl rfl 3 (by decide) (hts (.fieldLink RX4 26 "FencePilot$Upload" "age" "I") (by decide +kernel)) (fun _ h9 => h9) rfl dX4_growOlder_19 ?_
    refine lv_bipush (v := 10) hx hb dX4_growOlder_22 (by decide) ?_
    refine lv_icmp_lt (tgt := 59) hx hb dX4_growOlder_24 (by decide) (fun c_2 => ?_) (fun c_2 => ?_)
    · exact kk_rv (uw, (ua + (1 : Int32)), up) hx hb hr hlk dX4_growOlder_59 hS (hP.sub [0] rfl) (hD.sub [0] (by decide) rfl) (by show (uw, (ua + (1 : Int32)), up) = f_X4_growOlder uw us ua up; unfold f_X4_growOlder; rw [if_neg c_1]; rw [if_pos c_2]; try rfl)
    · refine lv_aload_n hx hb dX4_growOlder_27 rfl (lv_at hl 0 rfl) ?_
      refine lv_iconst (v := 0) hx hb dX4_growOlder_28 (by decide) ?_
      refine va_put (D := D) (ci := 4) (v := .int (0 : Int32)) (ty := .int) (C := RX4) (T := TX4) (N := 5) hx hb hts hiX4 tyX4 tyX4_ok nmX4 hown hK.1 hP hD hS 0 rfl rfl 3 (by decide) (hts (.fieldLink RX4 26 "FencePilot$Upload" "age" "I") (by decide +kernel)) (fun _ h9 => h9) rfl (by decide +kernel) rfl rfl (Nat.le_of_ble_eq_true rfl) dX4_growOlder_29 (fun H locs hP hD hS => ?_)
      have hP : va_P D vwCl [(q0, .inr (4, [.ref q1, .int uw, .int us, .int (0 : Int32), .int up]))] H := hP
      have hD : va_D A [(q0, .inr (4, [.ref q1, .int uw, .int us, .int (0 : Int32), .int up]))] := hD
      refine lv_aload_n hx hb dX4_growOlder_32 rfl (lv_at hl 0 rfl) ?_
      refine lv_dup hx hb dX4_growOlder_33 rfl ?_
      refine va_get (D := D) hx hb hts hiX4 hown hK.1 hP 0 rfl rfl 4 (by decide) (hts (.fieldLink RX4 29 "FencePilot$Upload" "repeats" "I") (by decide +kernel)) (fun _ h9 => h9) rfl dX4_growOlder_34 ?_
      refine lv_iconst (v := 1) hx hb dX4_growOlder_37 (by decide) ?_
      refine lv_iadd hx hb dX4_growOlder_38 ?_
      refine va_put (D := D) (ci := 4) (v := .int (up + (1 : Int32))) (ty := .int) (C := RX4) (T := TX4) (N := 5) hx hb hts hiX4 tyX4 tyX4_ok nmX4 hown hK.1 hP hD hS 0 rfl rfl 4 (by decide) (hts (.fieldLink RX4 29 "FencePilot$Upload" "repeats" "I") (by decide +kernel)) (fun _ h9 => h9) rfl (by decide +kernel) rfl rfl (Nat.le_of_ble_eq_true rfl) dX4_growOlder_39 (fun H locs hP hD hS => ?_)
      have hP : va_P D vwCl [(q0, .inr (4, [.ref q1, .int uw, .int us, .int (0 : Int32), .int (up + (1 : Int32))]))] H := hP
      have hD : va_D A [(q0, .inr (4, [.ref q1, .int uw, .int us, .int (0 : Int32), .int (up + (1 : Int32))]))] := hD
      refine lv_aload_n hx hb dX4_growOlder_42 rfl (lv_at hl 0 rfl) ?_
      refine lv_aload_n hx hb dX4_growOlder_43 rfl (lv_at hl 0 rfl) ?_
      refine va_get (D := D) hx hb hts hiX4 hown hK.1 hP 0 rfl rfl 4 (by decide) (hts (.fieldLink RX4 29 "FencePilot$Upload" "repeats" "I") (by decide +kernel)) (fun _ h9 => h9) rfl dX4_growOlder_44 ?_
      refine lv_iconst (v := 3) hx hb dX4_growOlder_47 (by decide) ?_
      refine lv_icmp_ge (tgt := 55) hx hb dX4_growOlder_48 (by decide) (fun c_3 => ?_) (fun c_3 => ?_)
      · refine lv_iconst (v := 0) hx hb dX4_growOlder_55 (by decide) ?_
        refine va_put (D := D) (ci := 4) (v := .int (0 : Int32)) (ty := .boolean) (C := RX4) (T := TX4) (N := 5) hx hb hts hiX4 tyX4 tyX4_ok nmX4 hown hK.1 hP hD hS 0 rfl rfl 1 (by decide) (hts (.fieldLink RX4 18 "FencePilot$Upload" "underWay" "Z") (by decide +kernel)) (fun _ h9 => h9) rfl (by decide +kernel) rfl rfl (Nat.le_of_ble_eq_true rfl) dX4_growOlder_56 (fun H locs hP hD hS => ?_)
        have hP : va_P D vwCl [(q0, .inr (4, [.ref q1, .int (0 : Int32), .int us, .int (0 : Int32), .int (up + (1 : Int32))]))] H := hP
        have hD : va_D A [(q0, .inr (4, [.ref q1, .int (0 : Int32), .int us, .int (0 : Int32), .int (up + (1 : Int32))]))] := hD
        exact kk_rv ((0 : Int32), (0 : Int32), (up + (1 : Int32))) hx hb hr hlk dX4_growOlder_59 hS (hP.sub [0] rfl) (hD.sub [0] (by decide) rfl) (by show ((0 : Int32), (0 : Int32), (up + (1 : Int32))) = f_X4_growOlder uw us ua up; unfold f_X4_growOlder; rw [if_neg c_1]; rw [if_neg c_2]; rw [if_pos c_3]; try rfl)
      · refine lv_iconst (v := 1) hx hb dX4_growOlder_51 (by decide) ?_
        refine lv_goto (tgt := 56) hx hb dX4_growOlder_52 (by decide) ?_
        refine va_put (D := D) (ci := 4) (v := .int (1 : Int32)) (ty := .boolean) (C := RX4) (T := TX4) (N := 5) hx hb hts hiX4 tyX4 tyX4_ok nmX4 hown hK.1 hP hD hS 0 rfl rfl 1 (by decide) (hts (.fieldLink RX4 18 "FencePilot$Upload" "underWay" "Z") (by decide +kernel)) (fun _ h9 => h9) rfl (by decide +kernel) rfl rfl (Nat.le_of_ble_eq_true rfl) dX4_growOlder_56 (fun H locs hP hD hS => ?_)
        have hP : va_P D vwCl [(q0, .inr (4, [.ref q1, .int (1 : Int32), .int us, .int (0 : Int32), .int (up + (1 : Int32))]))] H := hP
        have hD : va_D A [(q0, .inr (4, [.ref q1, .int (1 : Int32), .int us, .int (0 : Int32), .int (up + (1 : Int32))]))] := hD
        exact kk_rv ((1 : Int32), (0 : Int32), (up + (1 : Int32))) hx hb hr hlk dX4_growOlder_59 hS (hP.sub [0] rfl) (hD.sub [0] (by decide) rfl) (by show ((1 : Int32), (0 : Int32), (up + (1 : Int32))) = f_X4_growOlder uw us ua up; unfold f_X4_growOlder; rw [if_neg c_1]; rw [if_neg c_2]; rw [if_neg c_3]; try rfl)
  · exact kk_rv (uw, ua, up) hx hb hr hlk dX4_growOlder_7 hS (hP.sub [0] rfl) (hD.sub [0] (by decide) rfl) (by show (uw, ua, up) = f_X4_growOlder uw us ua up; unfold f_X4_growOlder; rw [if_pos c_1]; try rfl)
