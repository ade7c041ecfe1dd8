set_option maxHeartbeats 4000000 in
set_option maxRecDepth 100000 in
theorem k_X0_init (l : Launch) (D : va_G) (cI cZ : ClassId) (q0 sz : Nat) : kk_Mv l D cI cZ yX0_init wsX0_init ({ frames := 1, cells := 2, slots := 16, locals := 12 } : Room) [.ref q0] sz [(q0, .inr (0, [.null, .null, .int 0]))] (fun (_ : Nat × Nat) => True) (fun u => [(q0, .inr (0, [.ref u.1, .ref u.2, .int (0 : Int32)])), (u.1, .inl (cI, 8, .inl (fun _ => 0))), (u.2, .inl (cI, 8, .inl (fun _ => 0)))]) 2 16 := by
  refine kk_entv (cc := cX0_init) (maxL := 1) (ret := none) (by decide +kernel) rfl (Nat.le_of_ble_eq_true rfl) (fun p e s m args below meth c A ls hX hP hD hS hl => ?_)
  obtain ⟨hx, hb, hml, hown, hts, hr, hlk, hnm, hK, hA⟩ := hX
  have hown : s.vm.findClass RX0 = some m.cls := hown
  have hiX0 : ∀ w ∈ wsX00, w ∈ wsX0_init := by decide +kernel
  have hl : lv_has ls 1 [(0, .ref q0)] := hl
  refine lv_aload_n hx hb dX0_init_0 rfl (lv_at hl 0 rfl) ?_
  refine W.objInit hx hb hown (hts (.methodLink RX0 3 objectInit) (by decide +kernel)) (hts (.instanceMethod objectInit) (by decide +kernel)) (hts _ (List.mem_of_getElem? (i := 3) rfl)) rfl (by rw [hml]; exact hl.1) rfl dX0_init_1 (Nat.le_of_ble_eq_true rfl) (Nat.le_of_ble_eq_true rfl) ?_
  refine W.eq (g2 := F0 m 4 ls []) rfl ?_
  refine lv_aload_n hx hb dX0_init_4 rfl (lv_at hl 0 rfl) ?_
  refine lv_bipush (v := 8) hx hb dX0_init_5 (by decide) ?_
  refine va_newa (atype := .int) (ty := .int) (n := 8) (N' := 8) (a0 := (8, .inl (fun _ => 0))) hx hb (hts (.arrayClass .int) (by decide +kernel)) rfl hK.1 hP hD hS hA (fun _ => rfl) (by decide) (by decide) (by decide +kernel) (Nat.le_of_ble_eq_true rfl) (Nat.le_of_ble_eq_true rfl) dX0_init_7 (fun qa_1 ca_2 H hK2 hP hD hS => ?_)
  obtain rfl : cI = ca_2 := (kk_oneI hK2).symm
  have hP : va_P D vwCl [(q0, .inr (0, [.null, .null, .int 0])), (qa_1, .inl (cI, 8, .inl (fun _ => 0)))] H := hP
  have hD : va_D A [(q0, .inr (0, [.null, .null, .int 0])), (qa_1, .inl (cI, 8, .inl (fun _ => 0)))] := hD
  refine va_putF (D := D) (ci := 0) (v := .ref qa_1) (ty := .array .int) (C := RX0) (T := TX0) (N := 3) hx hb hts hiX0 tyX0 tyX0_ok nmX0 hown hK.1 hP hD hS 0 rfl rfl 0 (by decide) (hts (.fieldLink RX0 9 "FencePilot$Corners" "xs" "[I") (by decide +kernel)) (fun _ h9 => h9) rfl hnm rfl (by decide +kernel) rfl rfl (Nat.le_of_ble_eq_true rfl) dX0_init_9 (fun H locs hP hD hS => ?_)
  have hP : va_P D vwCl [(q0, .inr (0, [.ref qa_1, .null, .int 0])), (qa_1, .inl (cI, 8, .inl (fun _ => 0)))] H := hP
  have hD : va_D A [(q0, .inr (0, [.ref qa_1, .null, .int 0])), (qa_1, .inl (cI, 8, .inl (fun _ => 0)))] := hD
  refine lv_aload_n hx hb dX0_init_12 rfl (lv_at hl 0 rfl) ?_
  refine lv_bipush (v := 8) hx hb dX0_init_13 (by decide) ?_
  refine va_newa (atype := .int) (ty := .int) (n := 8) (N' := 8) (a0 := (8, .inl (fun _ => 0))) hx hb (hts (.arrayClass .int) (by decide +kernel)) rfl hK.1 hP hD hS hA (fun _ => rfl) (by decide) (by decide) (by decide +kernel) (Nat.le_of_ble_eq_true rfl) (Nat.le_of_ble_eq_true rfl) dX0_init_15 (fun qa_3 ca_4 H hK2 hP hD hS => ?_)
  obtain rfl : cI = ca_4 := (kk_oneI hK2).symm
  have hP : va_P D vwCl [(q0, .inr (0, [.ref qa_1, .null, .int 0])), (qa_1, .inl (cI, 8, .inl (fun _ => 0))), (qa_3, .inl (cI, 8, .inl (fun _ => 0)))] H := hP
  have hD : va_D A [(q0, .inr (0, [.ref qa_1, .null, .int 0])), (qa_1, .inl (cI, 8, .inl (fun _ => 0))), (qa_3, .inl (cI, 8, .inl (fun _ => 0)))] := hD
  refine va_putF (D := D) (ci := 0) (v := .ref qa_3) (ty := .array .int) (C := RX0) (T := TX0) (N := 3) hx hb hts hiX0 tyX0 tyX0_ok nmX0 hown hK.1 hP hD hS 0 rfl rfl 1 (by decide) (hts (.fieldLink RX0 15 "FencePilot$Corners" "ys" "[I") (by decide +kernel)) (fun _ h9 => h9) rfl hnm rfl (by decide +kernel) rfl rfl (Nat.le_of_ble_eq_true rfl) dX0_init_17 (fun H locs hP hD hS => ?_)
  have hP : va_P D vwCl [(q0, .inr (0, [.ref qa_1, .ref qa_3, .int 0])), (qa_1, .inl (cI, 8, .inl (fun _ => 0))), (qa_3, .inl (cI, 8, .inl (fun _ => 0)))] H := hP
  have hD : va_D A [(q0, .inr (0, [.ref qa_1, .ref qa_3, .int 0])), (qa_1, .inl (cI, 8, .inl (fun _ => 0))), (qa_3, .inl (cI, 8, .inl (fun _ => 0)))] := hD
  refine lv_aload_n hx hb dX0_init_20 rfl (lv_at hl 0 rfl) ?_
  refine lv_iconst (v := 0) hx hb dX0_init_21 (by decide) ?_
  refine va_put (D := D) (ci := 0) (v := .int (0 : Int32)) (ty := .int) (C := RX0) (T := TX0) (N := 3) hx hb hts hiX0 tyX0 tyX0_ok nmX0 hown hK.1 hP hD hS 0 rfl rfl 2 (by decide) (hts (.fieldLink RX0 18 "FencePilot$Corners" "count" "I") (by decide +kernel)) (fun _ h9 => h9) rfl (by decide +kernel) rfl rfl (Nat.le_of_ble_eq_true rfl) dX0_init_22 (fun H locs hP hD hS => ?_)
  have hP : va_P D vwCl [(q0, .inr (0, [.ref qa_1, .ref qa_3, .int (0 : Int32)])), (qa_1, .inl (cI, 8, .inl (fun _ => 0))), (qa_3, .inl (cI, 8, .inl (fun _ => 0)))] H := hP
  have hD : va_D A [(q0, .inr (0, [.ref qa_1, .ref qa_3, .int (0 : Int32)])), (qa_1, .inl (cI, 8, .inl (fun _ => 0))), (qa_3, .inl (cI, 8, .inl (fun _ => 0)))] := hD
  exact kk_rv (qa_1, qa_3) hx hb hr hlk dX0_init_25 hS (hP.sub [0, 1, 2] rfl) (hD.sub [0, 1, 2] (by decide) rfl) trivial
set_option maxHeartbeats 4000000 in
set_option maxRecDepth 100000 in
theorem k_X1_init (l : Launch) (D : va_G) (cI cZ : ClassId) (q0 sz : Nat) : kk_Mv l D cI cZ yX1_init wsX1_init ({ frames := 1, cells := 1, slots := 24, locals := 12 } : Room) [.ref q0] sz [(q0, .inr (1, [.null, .int 0]))] (fun (_ : Nat) => True) (fun u => [(q0, .inr (1, [.ref u, .int (0 : Int32)])), (u, .inl (cI, 24, .inl (fun _ => 0)))]) 1 24 := by
  refine kk_entv (cc := cX1_init) (maxL := 1) (ret := none) (by decide +kernel) rfl (Nat.le_of_ble_eq_true rfl) (fun p e s m args below meth c A ls hX hP hD hS hl => ?_)
  obtain ⟨hx, hb, hml, hown, hts, hr, hlk, hnm, hK, hA⟩ := hX
  have hown : s.vm.findClass RX1 = some m.cls := hown
  have hiX1 : ∀ w ∈ wsX10, w ∈ wsX1_init := by decide +kernel
  have hl : lv_has ls 1 [(0, .ref q0)] := hl
  refine lv_aload_n hx hb dX1_init_0 rfl (lv_at hl 0 rfl) ?_
  refine W.objInit hx hb hown (hts (.methodLink RX1 3 objectInit) (by decide +kernel)) (hts (.instanceMethod objectInit) (by decide +kernel)) (hts _ (List.mem_of_getElem? (i := 3) rfl)) rfl (by rw [hml]; exact hl.1) rfl dX1_init_1 (Nat.le_of_ble_eq_true rfl) (Nat.le_of_ble_eq_true rfl) ?_
  refine W.eq (g2 := F0 m 4 ls []) rfl ?_
  refine lv_aload_n hx hb dX1_init_4 rfl (lv_at hl 0 rfl) ?_
  refine lv_bipush (v := 24) hx hb dX1_init_5 (by decide) ?_
  refine va_newa (atype := .int) (ty := .int) (n := 24) (N' := 24) (a0 := (24, .inl (fun _ => 0))) hx hb (hts (.arrayClass .int) (by decide +kernel)) rfl hK.1 hP hD hS hA (fun _ => rfl) (by decide) (by decide) (by decide +kernel) (Nat.le_of_ble_eq_true rfl) (Nat.le_of_ble_eq_true rfl) dX1_init_7 (fun qa_1 ca_2 H hK2 hP hD hS => ?_)
  obtain rfl : cI = ca_2 := (kk_oneI hK2).symm
  have hP : va_P D vwCl [(q0, .inr (1, [.null, .int 0])), (qa_1, .inl (cI, 24, .inl (fun _ => 0)))] H := hP
  have hD : va_D A [(q0, .inr (1, [.null, .int 0])), (qa_1, .inl (cI, 24, .inl (fun _ => 0)))] := hD
  refine va_putF (D := D) (ci := 1) (v := .ref qa_1) (ty := .array .int) (C := RX1) (T := TX1) (N := 2) hx hb hts hiX1 tyX1 tyX1_ok nmX1 hown hK.1 hP hD hS 0 rfl rfl 0 (by decide) (hts (.fieldLink RX1 9 "FencePilot$Items" "row" "[I") (by decide +kernel)) (fun _ h9 => h9) rfl hnm rfl (by decide +kernel) rfl rfl (Nat.le_of_ble_eq_true rfl) dX1_init_9 (fun H locs hP hD hS => ?_)
  have hP : va_P D vwCl [(q0, .inr (1, [.ref qa_1, .int 0])), (qa_1, .inl (cI, 24, .inl (fun _ => 0)))] H := hP
  have hD : va_D A [(q0, .inr (1, [.ref qa_1, .int 0])), (qa_1, .inl (cI, 24, .inl (fun _ => 0)))] := hD
  refine lv_aload_n hx hb dX1_init_12 rfl (lv_at hl 0 rfl) ?_
  refine lv_iconst (v := 0) hx hb dX1_init_13 (by decide) ?_
  refine va_put (D := D) (ci := 1) (v := .int (0 : Int32)) (ty := .int) (C := RX1) (T := TX1) (N := 2) hx hb hts hiX1 tyX1 tyX1_ok nmX1 hown hK.1 hP hD hS 0 rfl rfl 1 (by decide) (hts (.fieldLink RX1 15 "FencePilot$Items" "count" "I") (by decide +kernel)) (fun _ h9 => h9) rfl (by decide +kernel) rfl rfl (Nat.le_of_ble_eq_true rfl) dX1_init_14 (fun H locs hP hD hS => ?_)
  have hP : va_P D vwCl [(q0, .inr (1, [.ref qa_1, .int (0 : Int32)])), (qa_1, .inl (cI, 24, .inl (fun _ => 0)))] H := hP
  have hD : va_D A [(q0, .inr (1, [.ref qa_1, .int (0 : Int32)])), (qa_1, .inl (cI, 24, .inl (fun _ => 0)))] := hD
  exact kk_rv qa_1 hx hb hr hlk dX1_init_17 hS (hP.sub [0, 1] rfl) (hD.sub [0, 1] (by decide) rfl) trivial
set_option maxHeartbeats 4000000 in
set_option maxRecDepth 100000 in
theorem k_X3_init (l : Launch) (D : va_G) (cI cZ : ClassId) (q0 sz : Nat) : kk_Mv l D cI cZ yX3_init wsX3_init ({ frames := 1, cells := 2, slots := 12, locals := 12 } : Room) [.ref q0] sz [(q0, .inr (3, [.null, .null]))] (fun (_ : Nat × Nat) => True) (fun u => [(q0, .inr (3, [.ref u.1, .ref u.2])), (u.1, .inl (cI, 9, .inl (fun _ => 0))), (u.2, .inl (cZ, 3, .inl (fun _ => 0)))]) 2 12 := by
  refine kk_entv (cc := cX3_init) (maxL := 1) (ret := none) (by decide +kernel) rfl (Nat.le_of_ble_eq_true rfl) (fun p e s m args below meth c A ls hX hP hD hS hl => ?_)
  obtain ⟨hx, hb, hml, hown, hts, hr, hlk, hnm, hK, hA⟩ := hX
  have hown : s.vm.findClass RX3 = some m.cls := hown
  have hiX3 : ∀ w ∈ wsX30, w ∈ wsX3_init := by decide +kernel
  have hl : lv_has ls 1 [(0, .ref q0)] := hl
  refine lv_aload_n hx hb dX3_init_0 rfl (lv_at hl 0 rfl) ?_
  refine W.objInit hx hb hown (hts (.methodLink RX3 3 objectInit) (by decide +kernel)) (hts (.instanceMethod objectInit) (by decide +kernel)) (hts _ (List.mem_of_getElem? (i := 3) rfl)) rfl (by rw [hml]; exact hl.1) rfl dX3_init_1 (Nat.le_of_ble_eq_true rfl) (Nat.le_of_ble_eq_true rfl) ?_
  refine W.eq (g2 := F0 m 4 ls []) rfl ?_
  refine lv_aload_n hx hb dX3_init_4 rfl (lv_at hl 0 rfl) ?_
  refine lv_bipush (v := 9) hx hb dX3_init_5 (by decide) ?_
  refine va_newa (atype := .int) (ty := .int) (n := 9) (N' := 9) (a0 := (9, .inl (fun _ => 0))) hx hb (hts (.arrayClass .int) (by decide +kernel)) rfl hK.1 hP hD hS hA (fun _ => rfl) (by decide) (by decide) (by decide +kernel) (Nat.le_of_ble_eq_true rfl) (Nat.le_of_ble_eq_true rfl) dX3_init_7 (fun qa_1 ca_2 H hK2 hP hD hS => ?_)
  obtain rfl : cI = ca_2 := (kk_oneI hK2).symm
  have hP : va_P D vwCl [(q0, .inr (3, [.null, .null])), (qa_1, .inl (cI, 9, .inl (fun _ => 0)))] H := hP
  have hD : va_D A [(q0, .inr (3, [.null, .null])), (qa_1, .inl (cI, 9, .inl (fun _ => 0)))] := hD
  refine va_putF (D := D) (ci := 3) (v := .ref qa_1) (ty := .array .int) (C := RX3) (T := TX3) (N := 2) hx hb hts hiX3 tyX3 tyX3_ok nmX3 hown hK.1 hP hD hS 0 rfl rfl 0 (by decide) (hts (.fieldLink RX3 9 "FencePilot$Sensors" "row" "[I") (by decide +kernel)) (fun _ h9 => h9) rfl hnm rfl (by decide +kernel) rfl rfl (Nat.le_of_ble_eq_true rfl) dX3_init_9 (fun H locs hP hD hS => ?_)
  have hP : va_P D vwCl [(q0, .inr (3, [.ref qa_1, .null])), (qa_1, .inl (cI, 9, .inl (fun _ => 0)))] H := hP
  have hD : va_D A [(q0, .inr (3, [.ref qa_1, .null])), (qa_1, .inl (cI, 9, .inl (fun _ => 0)))] := hD
  refine lv_aload_n hx hb dX3_init_12 rfl (lv_at hl 0 rfl) ?_
  refine lv_iconst (v := 3) hx hb dX3_init_13 (by decide) ?_
  refine va_newa (atype := .boolean) (ty := .boolean) (n := 3) (N' := 3) (a0 := (3, .inl (fun _ => 0))) hx hb (hts (.arrayClass .boolean) (by decide +kernel)) rfl hK.1 hP hD hS hA (fun _ => rfl) (by decide) (by decide) (by decide +kernel) (Nat.le_of_ble_eq_true rfl) (Nat.le_of_ble_eq_true rfl) dX3_init_14 (fun qa_3 ca_4 H hK2 hP hD hS => ?_)
  obtain rfl : cZ = ca_4 := (kk_oneZ hK2).symm
  have hP : va_P D vwCl [(q0, .inr (3, [.ref qa_1, .null])), (qa_1, .inl (cI, 9, .inl (fun _ => 0))), (qa_3, .inl (cZ, 3, .inl (fun _ => 0)))] H := hP
  have hD : va_D A [(q0, .inr (3, [.ref qa_1, .null])), (qa_1, .inl (cI, 9, .inl (fun _ => 0))), (qa_3, .inl (cZ, 3, .inl (fun _ => 0)))] := hD
  refine va_putF (D := D) (ci := 3) (v := .ref qa_3) (ty := .array .boolean) (C := RX3) (T := TX3) (N := 2) hx hb hts hiX3 tyX3 tyX3_ok nmX3 hown hK.1 hP hD hS 0 rfl rfl 1 (by decide) (hts (.fieldLink RX3 15 "FencePilot$Sensors" "fresh" "[Z") (by decide +kernel)) (fun _ h9 => h9) rfl hnm rfl (by decide +kernel) rfl rfl (Nat.le_of_ble_eq_true rfl) dX3_init_16 (fun H locs hP hD hS => ?_)
  have hP : va_P D vwCl [(q0, .inr (3, [.ref qa_1, .ref qa_3])), (qa_1, .inl (cI, 9, .inl (fun _ => 0))), (qa_3, .inl (cZ, 3, .inl (fun _ => 0)))] H := hP
  have hD : va_D A [(q0, .inr (3, [.ref qa_1, .ref qa_3])), (qa_1, .inl (cI, 9, .inl (fun _ => 0))), (qa_3, .inl (cZ, 3, .inl (fun _ => 0)))] := hD
  exact kk_rv (qa_1, qa_3) hx hb hr hlk dX3_init_19 hS (hP.sub [0, 1, 2] rfl) (hD.sub [0, 1, 2] (by decide) rfl) trivial
set_option maxHeartbeats 4000000 in
set_option maxRecDepth 100000 in
theorem k_X4_init (l : Launch) (D : va_G) (cI cZ : ClassId) (q0 sz : Nat) : kk_Mv l D cI cZ yX4_init wsX4_init ({ frames := 2, cells := 2, slots := 26, locals := 32 } : Room) [.ref q0] sz [(q0, .inr (4, [.null, .int 0, .int 0, .int 0, .int 0]))] (fun (_ : Nat × Nat) => True) (fun u => [(q0, .inr (4, [.ref u.1, .int (0 : Int32), .int (0 : Int32), .int (0 : Int32), .int (0 : Int32)])), (u.1, .inr (1, [.ref u.2, .int (0 : Int32)])), (u.2, .inl (cI, 24, .inl (fun _ => 0)))]) 2 26 := by
  refine kk_entv (cc := cX4_init) (maxL := 1) (ret := none) (by decide +kernel) rfl (Nat.le_of_ble_eq_true rfl) (fun p e s m args below meth c A ls hX hP hD hS hl => ?_)
  obtain ⟨hx, hb, hml, hown, hts, hr, hlk, hnm, hK, hA⟩ := hX
  have hown : s.vm.findClass RX4 = some m.cls := hown
  have hiX1 : ∀ w ∈ wsX10, w ∈ wsX4_init := by decide +kernel
  have hiX4 : ∀ w ∈ wsX40, w ∈ wsX4_init := by decide +kernel
  have hl : lv_has ls 1 [(0, .ref q0)] := hl
  refine lv_aload_n hx hb dX4_init_0 rfl (lv_at hl 0 rfl) ?_
  refine W.objInit hx hb hown (hts (.methodLink RX4 3 objectInit) (by decide +kernel)) (hts (.instanceMethod objectInit) (by decide +kernel)) (hts _ (List.mem_of_getElem? (i := 3) rfl)) rfl (by rw [hml]; exact hl.1) rfl dX4_init_1 (Nat.le_of_ble_eq_true rfl) (Nat.le_of_ble_eq_true rfl) ?_
  refine W.eq (g2 := F0 m 4 ls []) rfl ?_
  refine lv_aload_n hx hb dX4_init_4 rfl (lv_at hl 0 rfl) ?_
  refine va_new (ci := 1) (fs := [.null, .int 0]) (C := RX1) (T := TX1) (N := 2) hx hb hts hiX1 tyX1 tyX1_ok hown (hts (.classLink RX4 9 RX1) (by decide +kernel)) (hts (.instantiable RX1 2) (by decide +kernel)) (hts (.initialized RX1) (by decide +kernel)) hK.1 hP hD hS hA rfl (fun j hj => by rcases (show j = 0 ∨ j = 1 by omega) with rfl | rfl <;> rfl) (Nat.le_of_ble_eq_true rfl) (Nat.le_of_ble_eq_true rfl) dX4_init_5 (fun qo_1 H hP hD hS => ?_)
  have hP : va_P D vwCl [(q0, .inr (4, [.null, .int 0, .int 0, .int 0, .int 0])), (qo_1, .inr (1, [.null, .int 0]))] H := hP
  have hD : va_D A [(q0, .inr (4, [.null, .int 0, .int 0, .int 0, .int 0])), (qo_1, .inr (1, [.null, .int 0]))] := hD
  refine lv_dup hx hb dX4_init_8 rfl ?_
  refine kk_cIv (wc := [(qo_1, .inr (1, [.null, .int 0]))]) (wr := [(q0, .inr (4, [.null, .int 0, .int 0, .int 0, .int 0]))]) ⟨hx, hb, hml, hown, hts⟩ hK hP hD hS hA [1] [0] (k_X1_init l D cI cZ qo_1 H.size) (cwI 0 hts gX4_init_X1_init rfl rfl rfl (hts (.initialized RX1) (by decide +kernel)) (hts (.methodLink RX4 11 yX1_init) (by decide +kernel)) (hts (.instanceMethod yX1_init) (by decide +kernel)) rfl (by decide +kernel) ⟨(Nat.le_of_ble_eq_true rfl), (Nat.le_of_ble_eq_true rfl)⟩) rfl rfl (by decide) (by decide) (by decide) rfl hl.1 rfl (Nat.le_of_ble_eq_true rfl) dX4_init_9 ⟨(Nat.le_of_ble_eq_true rfl), (Nat.le_of_ble_eq_true rfl)⟩ (fun qb_2 H locs hw_3 hP hD hS => ?_)
  have hP : va_P D vwCl [(q0, .inr (4, [.null, .int 0, .int 0, .int 0, .int 0])), (qo_1, .inr (1, [.ref qb_2, .int (0 : Int32)])), (qb_2, .inl (cI, 24, .inl (fun _ => 0)))] H := hP
  have hD : va_D A [(q0, .inr (4, [.null, .int 0, .int 0, .int 0, .int 0])), (qo_1, .inr (1, [.ref qb_2, .int (0 : Int32)])), (qb_2, .inl (cI, 24, .inl (fun _ => 0)))] := hD
  refine va_putF (D := D) (ci := 4) (v := .ref qo_1) (ty := .object "FencePilot$Items") (C := RX4) (T := TX4) (N := 5) hx hb hts hiX4 tyX4 tyX4_ok nmX4 hown hK.1 hP hD hS 0 rfl rfl 0 (by decide) (hts (.fieldLink RX4 12 "FencePilot$Upload" "brought" "LFencePilot$Items;") (by decide +kernel)) (fun _ h9 => h9) rfl hnm rfl (by decide +kernel) rfl rfl (Nat.le_of_ble_eq_true rfl) dX4_init_12 (fun H locs hP hD hS => ?_)
  have hP : va_P D vwCl [(q0, .inr (4, [.ref qo_1, .int 0, .int 0, .int 0, .int 0])), (qo_1, .inr (1, [.ref qb_2, .int (0 : Int32)])), (qb_2, .inl (cI, 24, .inl (fun _ => 0)))] H := hP
  have hD : va_D A [(q0, .inr (4, [.ref qo_1, .int 0, .int 0, .int 0, .int 0])), (qo_1, .inr (1, [.ref qb_2, .int (0 : Int32)])), (qb_2, .inl (cI, 24, .inl (fun _ => 0)))] := hD
  refine lv_aload_n hx hb dX4_init_15 rfl (lv_at hl 0 rfl) ?_
  refine lv_iconst (v := 0) hx hb dX4_init_16 (by decide) ?_
  refine va_put (D := D) (ci := 4) (v := .int (0 : Int32)) (ty := .boolean) (C := RX4) (T := TX4) (N := 5) hx hb hts hiX4 tyX4 tyX4_ok nmX4 hown hK.1 hP hD hS 0 rfl rfl 1 (by decide) (hts (.fieldLink RX4 18 "FencePilot$Upload" "underWay" "Z") (by decide +kernel)) (fun _ h9 => h9) rfl (by decide +kernel) rfl rfl (Nat.le_of_ble_eq_true rfl) dX4_init_17 (fun H locs hP hD hS => ?_)
  have hP : va_P D vwCl [(q0, .inr (4, [.ref qo_1, .int (0 : Int32), .int 0, .int 0, .int 0])), (qo_1, .inr (1, [.ref qb_2, .int (0 : Int32)])), (qb_2, .inl (cI, 24, .inl (fun _ => 0)))] H := hP
  have hD : va_D A [(q0, .inr (4, [.ref qo_1, .int (0 : Int32), .int 0, .int 0, .int 0])), (qo_1, .inr (1, [.ref qb_2, .int (0 : Int32)])), (qb_2, .inl (cI, 24, .inl (fun _ => 0)))] := hD
  refine lv_aload_n hx hb dX4_init_20 rfl (lv_at hl 0 rfl) ?_
  refine lv_iconst (v := 0) hx hb dX4_init_21 (by decide) ?_
  refine va_put (D := D) (ci := 4) (v := .int (0 : Int32)) (ty := .int) (C := RX4) (T := TX4) (N := 5) hx hb hts hiX4 tyX4 tyX4_ok nmX4 hown hK.1 hP hD hS 0 rfl rfl 2 (by decide) (hts (.fieldLink RX4 22 "FencePilot$Upload" "size" "I") (by decide +kernel)) (fun _ h9 => h9) rfl (by decide +kernel) rfl rfl (Nat.le_of_ble_eq_true rfl) dX4_init_22 (fun H locs hP hD hS => ?_)
  have hP : va_P D vwCl [(q0, .inr (4, [.ref qo_1, .int (0 : Int32), .int (0 : Int32), .int 0, .int 0])), (qo_1, .inr (1, [.ref qb_2, .int (0 : Int32)])), (qb_2, .inl (cI, 24, .inl (fun _ => 0)))] H := hP
  have hD : va_D A [(q0, .inr (4, [.ref qo_1, .int (0 : Int32), .int (0 : Int32), .int 0, .int 0])), (qo_1, .inr (1, [.ref qb_2, .int (0 : Int32)])), (qb_2, .inl (cI, 24, .inl (fun _ => 0)))] := hD
  refine lv_aload_n hx hb dX4_init_25 rfl (lv_at hl 0 rfl) ?_
  refine lv_iconst (v := 0) hx hb dX4_init_26 (by decide) ?_
  refine va_put (D := D) (ci := 4) (v := .int (0 : Int32)) (ty := .int) (C := RX4) (T := TX4) (N := 5) hx hb hts hiX4 tyX4 tyX4_ok nmX4 hown hK.1 hP hD hS 0 rfl rfl 3 (by decide) (hts (.fieldLink RX4 26 "FencePilot$Upload" "age" "I") (by decide +kernel)) (fun _ h9 => h9) rfl (by decide +kernel) rfl rfl (Nat.le_of_ble_eq_true rfl) dX4_init_27 (fun H locs hP hD hS => ?_)
  have hP : va_P D vwCl [(q0, .inr (4, [.ref qo_1, .int (0 : Int32), .int (0 : Int32), .int (0 : Int32), .int 0])), (qo_1, .inr (1, [.ref qb_2, .int (0 : Int32)])), (qb_2, .inl (cI, 24, .inl (fun _ => 0)))] H := hP
  have hD : va_D A [(q0, .inr (4, [.ref qo_1, .int (0 : Int32), .int (0 : Int32), .int (0 : Int32), .int 0])), (qo_1, .inr (1, [.ref qb_2, .int (0 : Int32)])), (qb_2, .inl (cI, 24, .inl (fun _ => 0)))] := hD
  refine lv_aload_n hx hb dX4_init_30 rfl (lv_at hl 0 rfl) ?_
  refine lv_iconst (v := 0) hx hb dX4_init_31 (by decide) ?_
  refine va_put (D := D) (ci := 4) (v := .int (0 : Int32)) (ty := .int) (C := RX4) (T := TX4) (N := 5) hx hb hts hiX4 tyX4 tyX4_ok nmX4 hown hK.1 hP hD hS 0 rfl rfl 4 (by decide) (hts (.fieldLink RX4 29 "FencePilot$Upload" "repeats" "I") (by decide +kernel)) (fun _ h9 => h9) rfl (by decide +kernel) rfl rfl (Nat.le_of_ble_eq_true rfl) dX4_init_32 (fun H locs hP hD hS => ?_)
  have hP : va_P D vwCl [(q0, .inr (4, [.ref qo_1, .int (0 : Int32), .int (0 : Int32), .int (0 : Int32), .int (0 : Int32)])), (qo_1, .inr (1, [.ref qb_2, .int (0 : Int32)])), (qb_2, .inl (cI, 24, .inl (fun _ => 0)))] H := hP
  have hD : va_D A [(q0, .inr (4, [.ref qo_1, .int (0 : Int32), .int (0 : Int32), .int (0 : Int32), .int (0 : Int32)])), (qo_1, .inr (1, [.ref qb_2, .int (0 : Int32)])), (qb_2, .inl (cI, 24, .inl (fun _ => 0)))] := hD
  exact kk_rv (qo_1, qb_2) hx hb hr hlk dX4_init_35 hS (hP.sub [0, 1, 2] rfl) (hD.sub [0, 1, 2] (by decide) rfl) trivial
