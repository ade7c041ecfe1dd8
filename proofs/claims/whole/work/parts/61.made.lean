def f_X2_init_arr : Nat → Int32 := (upd (upd (upd (upd (upd (upd (upd (upd (upd (upd (upd (upd (upd (upd (upd (upd (fun _ => 0) (0 : Int32).toNatClampNeg (-1 : Int32)) (1 : Int32).toNatClampNeg (-1 : Int32)) (2 : Int32).toNatClampNeg (-1 : Int32)) (3 : Int32).toNatClampNeg (-1 : Int32)) (4 : Int32).toNatClampNeg (-1 : Int32)) (5 : Int32).toNatClampNeg (-1 : Int32)) (6 : Int32).toNatClampNeg (-1 : Int32)) (7 : Int32).toNatClampNeg (-1 : Int32)) (8 : Int32).toNatClampNeg (-1 : Int32)) (9 : Int32).toNatClampNeg (-1 : Int32)) (10 : Int32).toNatClampNeg (-1 : Int32)) (11 : Int32).toNatClampNeg (-1 : Int32)) (12 : Int32).toNatClampNeg (-1 : Int32)) (13 : Int32).toNatClampNeg (-1 : Int32)) (14 : Int32).toNatClampNeg (-1 : Int32)) (15 : Int32).toNatClampNeg (-1 : Int32))
set_option maxHeartbeats 4000000 in
set_option maxRecDepth 100000 in
theorem k_X2_init (l : Launch) (D : va_G) (cI cZ : ClassId) (q0 sz : Nat) : kk_Mv l D cI cZ yX2_init wsX2_init ({ frames := 1, cells := 1, slots := 16, locals := 12 } : Room) [.ref q0] sz [(q0, .inr (2, [.null, .int 0, .int 0]))] (fun (_ : Nat) => True) (fun u => [(q0, .inr (2, [.ref u, .int (0 : Int32), .int (0 : Int32)])), (u, .inl (cI, 16, .inl f_X2_init_arr))]) 1 16 := by
  refine kk_entv (cc := cX2_init) (maxL := 2) (ret := none) (by decide +kernel) rfl (Nat.le_of_ble_eq_true rfl) (fun p e s m args below meth c A ls hX hP hD hS hl => ?_)
  obtain ⟨hx, hb, hml, hown, hts, hr, hlk, hnm, hK, hA⟩ := hX
  have hown : s.vm.findClass RX2 = some m.cls := hown
  have hiX2 : ∀ w ∈ wsX20, w ∈ wsX2_init := by decide +kernel
  have hl : lv_has ls 2 [(0, .ref q0)] := hl
  refine lv_aload_n hx hb dX2_init_0 rfl (lv_at hl 0 rfl) ?_
  refine W.objInit hx hb hown (hts (.methodLink RX2 3 objectInit) (by decide +kernel)) (hts (.instanceMethod objectInit) (by decide +kernel)) (hts _ (List.mem_of_getElem? (i := 3) rfl)) rfl (by rw [hml]; exact hl.1) rfl dX2_init_1 (Nat.le_of_ble_eq_true rfl) (Nat.le_of_ble_eq_true rfl) ?_
  refine W.eq (g2 := F0 m 4 ls []) rfl ?_
  refine lv_aload_n hx hb dX2_init_4 rfl (lv_at hl 0 rfl) ?_
  refine lv_bipush (v := 16) hx hb dX2_init_5 (by decide) ?_
  refine va_newa (atype := .int) (ty := .int) (n := 16) (N' := 16) (a0 := (16, .inl (fun _ => 0))) hx hb (hts (.arrayClass .int) (by decide +kernel)) rfl hK.1 hP hD hS hA (fun _ => rfl) (by decide) (by decide) (by decide +kernel) (Nat.le_of_ble_eq_true rfl) (Nat.le_of_ble_eq_true rfl) dX2_init_7 (fun qa_1 ca_2 H hK2 hP hD hS => ?_)
  obtain rfl : cI = ca_2 := (kk_oneI hK2).symm
  have hP : va_P D vwCl [(q0, .inr (2, [.null, .int 0, .int 0])), (qa_1, .inl (cI, 16, .inl (fun _ => 0)))] H := hP
  have hD : va_D A [(q0, .inr (2, [.null, .int 0, .int 0])), (qa_1, .inl (cI, 16, .inl (fun _ => 0)))] := hD
  refine va_putF (D := D) (ci := 2) (v := .ref qa_1) (ty := .array .int) (C := RX2) (T := TX2) (N := 3) hx hb hts hiX2 tyX2 tyX2_ok nmX2 hown hK.1 hP hD hS 0 rfl rfl 0 (by decide) (hts (.fieldLink RX2 9 "FencePilot$ModeLog" "changes" "[I") (by decide +kernel)) (fun _ h9 => h9) rfl hnm rfl (by decide +kernel) rfl rfl (Nat.le_of_ble_eq_true rfl) dX2_init_9 (fun H locs hP hD hS => ?_)
  have hP : va_P D vwCl [(q0, .inr (2, [.ref qa_1, .int 0, .int 0])), (qa_1, .inl (cI, 16, .inl (fun _ => 0)))] H := hP
  have hD : va_D A [(q0, .inr (2, [.ref qa_1, .int 0, .int 0])), (qa_1, .inl (cI, 16, .inl (fun _ => 0)))] := hD
  refine lv_iconst (v := 0) hx hb dX2_init_12 (by decide) ?_
  refine lv_istore_n (lv' := [(1, .int (0 : Int32)), (0, .ref q0)]) hx hb dX2_init_13 rfl hl (by decide) rfl (fun ls hl => ?_)
  refine lv_iload_n hx hb dX2_init_14 rfl (lv_at hl 0 rfl) ?_
  refine lv_bipush (v := 16) hx hb dX2_init_15 (by decide) ?_
  refine lv_icmp_ge (tgt := 33) hx hb dX2_init_17 (by decide) (fun z => absurd z (by decide)) (fun _ => ?_)
  refine lv_aload_n hx hb dX2_init_20 rfl (lv_at hl 1 rfl) ?_
  refine va_get (D := D) hx hb hts hiX2 hown hK.1 hP 0 rfl rfl 0 (by decide) (hts (.fieldLink RX2 9 "FencePilot$ModeLog" "changes" "[I") (by decide +kernel)) (fun _ h9 => h9) rfl dX2_init_21 ?_
  refine lv_iload_n hx hb dX2_init_24 rfl (lv_at hl 0 rfl) ?_
  refine lv_iconst (v := -1) hx hb dX2_init_25 (by decide) ?_
  refine va_iast hx hb hK.1 hP hD hS 1 0 rfl rfl (by unfold vp_in; decide) dX2_init_26 (fun H locs hP hD hS => ?_)
  have hP : va_P D vwCl [(q0, .inr (2, [.ref qa_1, .int 0, .int 0])), (qa_1, .inl (cI, 16, .inl (upd (fun _ => 0) (0 : Int32).toNatClampNeg (-1 : Int32))))] H := hP
  have hD : va_D A [(q0, .inr (2, [.ref qa_1, .int 0, .int 0])), (qa_1, .inl (cI, 16, .inl (upd (fun _ => 0) (0 : Int32).toNatClampNeg (-1 : Int32))))] := hD
  refine lv_iinc (v := (1 : Int32)) (lv' := [(1, .int (1 : Int32)), (0, .ref q0)]) hx hb dX2_init_27 hl (k := 0) rfl (by first | rfl | decide) (by decide) rfl (fun ls hl => ?_)
  refine lv_goto (tgt := 14) hx hb dX2_init_30 (by decide) ?_
  refine lv_iload_n hx hb dX2_init_14 rfl (lv_at hl 0 rfl) ?_
  refine lv_bipush (v := 16) hx hb dX2_init_15 (by decide) ?_
  refine lv_icmp_ge (tgt := 33) hx hb dX2_init_17 (by decide) (fun z => absurd z (by decide)) (fun _ => ?_)
  refine lv_aload_n hx hb dX2_init_20 rfl (lv_at hl 1 rfl) ?_
  refine va_get (D := D) hx hb hts hiX2 hown hK.1 hP 0 rfl rfl 0 (by decide) (hts (.fieldLink RX2 9 "FencePilot$ModeLog" "changes" "[I") (by decide +kernel)) (fun _ h9 => h9) rfl dX2_init_21 ?_
  refine lv_iload_n hx hb dX2_init_24 rfl (lv_at hl 0 rfl) ?_
  refine lv_iconst (v := -1) hx hb dX2_init_25 (by decide) ?_
  refine va_iast hx hb hK.1 hP hD hS 1 0 rfl rfl (by unfold vp_in; decide) dX2_init_26 (fun H locs hP hD hS => ?_)
  have hP : va_P D vwCl [(q0, .inr (2, [.ref qa_1, .int 0, .int 0])), (qa_1, .inl (cI, 16, .inl (upd (upd (fun _ => 0) (0 : Int32).toNatClampNeg (-1 : Int32)) (1 : Int32).toNatClampNeg (-1 : Int32))))] H := hP
  have hD : va_D A [(q0, .inr (2, [.ref qa_1, .int 0, .int 0])), (qa_1, .inl (cI, 16, .inl (upd (upd (fun _ => 0) (0 : Int32).toNatClampNeg (-1 : Int32)) (1 : Int32).toNatClampNeg (-1 : Int32))))] := hD
  refine lv_iinc (v := (2 : Int32)) (lv' := [(1, .int (2 : Int32)), (0, .ref q0)]) hx hb dX2_init_27 hl (k := 0) rfl (by first | rfl | decide) (by decide) rfl (fun ls hl => ?_)
  refine lv_goto (tgt := 14) hx hb dX2_init_30 (by decide) ?_
  refine lv_iload_n hx hb dX2_init_14 rfl (lv_at hl 0 rfl) ?_
  refine lv_bipush (v := 16) hx hb dX2_init_15 (by decide) ?_
  refine lv_icmp_ge (tgt := 33) hx hb dX2_init_17 (by decide) (fun z => absurd z (by decide)) (fun _ => ?_)
  refine lv_aload_n hx hb dX2_init_20 rfl (lv_at hl 1 rfl) ?_
  refine va_get (D := D) hx hb hts hiX2 hown hK.1 hP 0 rfl rfl 0 (by decide) (hts (.fieldLink RX2 9 "FencePilot$ModeLog" "changes" "[I") (by decide +kernel)) (fun _ h9 => h9) rfl dX2_init_21 ?_
  refine lv_iload_n hx hb dX2_init_24 rfl (lv_at hl 0 rfl) ?_
  refine lv_iconst (v := -1) hx hb dX2_init_25 (by decide) ?_
  refine va_iast hx hb hK.1 hP hD hS 1 0 rfl rfl (by unfold vp_in; decide) dX2_init_26 (fun H locs hP hD hS => ?_)
  have hP : va_P D vwCl [(q0, .inr (2, [.ref qa_1, .int 0, .int 0])), (qa_1, .inl (cI, 16, .inl (upd (upd (upd (fun _ => 0) (0 : Int32).toNatClampNeg (-1 : Int32)) (1 : Int32).toNatClampNeg (-1 : Int32)) (2 : Int32).toNatClampNeg (-1 : Int32))))] H := hP
  have hD : va_D A [(q0, .inr (2, [.ref qa_1, .int 0, .int 0])), (qa_1, .inl (cI, 16, .inl (upd (upd (upd (fun _ => 0) (0 : Int32).toNatClampNeg (-1 : Int32)) (1 : Int32).toNatClampNeg (-1 : Int32)) (2 : Int32).toNatClampNeg (-1 : Int32))))] := hD
  refine lv_iinc (v := (3 : Int32)) (lv' := [(1, .int (3 : Int32)), (0, .ref q0)]) hx hb dX2_init_27 hl (k := 0) rfl (by first | rfl | decide) (by decide) rfl (fun ls hl => ?_)
  refine lv_goto (tgt := 14) hx hb dX2_init_30 (by decide) ?_
  refine lv_iload_n hx hb dX2_init_14 rfl (lv_at hl 0 rfl) ?_
  refine lv_bipush (v := 16) hx hb dX2_init_15 (by decide) ?_
  refine lv_icmp_ge (tgt := 33) hx hb dX2_init_17 (by decide) (fun z => absurd z (by decide)) (fun _ => ?_)
  refine lv_aload_n hx hb dX2_init_20 rfl (lv_at hl 1 rfl) ?_
  refine va_get (D := D) hx hb hts hiX2 hown hK.1 hP 0 rfl rfl 0 (by decide) (hts (.fieldLink RX2 9 "FencePilot$ModeLog" "changes" "[I") (by decide +kernel)) (fun _ h9 => h9) rfl dX2_init_21 ?_
  refine lv_iload_n hx hb dX2_init_24 rfl (lv_at hl 0 rfl) ?_
  refine lv_iconst (v := -1) hx hb dX2_init_25 (by decide) ?_
  refine va_iast hx hb hK.1 hP hD hS 1 0 rfl rfl (by unfold vp_in; decide) dX2_init_26 (fun H locs hP hD hS => ?_)
  have hP : va_P D vwCl [(q0, .inr (2, [.ref qa_1, .int 0, .int 0])), (qa_1, .inl (cI, 16, .inl (upd (upd (upd (upd (fun _ => 0) (0 : Int32).toNatClampNeg (-1 : Int32)) (1 : Int32).toNatClampNeg (-1 : Int32)) (2 : Int32).toNatClampNeg (-1 : Int32)) (3 : Int32).toNatClampNeg (-1 : Int32))))] H := hP
  have hD : va_D A [(q0, .inr (2, [.ref qa_1, .int 0, .int 0])), (qa_1, .inl (cI, 16, .inl (upd (upd (upd (upd (fun _ => 0) (0 : Int32).toNatClampNeg (-1 : Int32)) (1 : Int32).toNatClampNeg (-1 : Int32)) (2 : Int32).toNatClampNeg (-1 : Int32)) (3 : Int32).toNatClampNeg (-1 : Int32))))] := hD
  refine lv_iinc (v := (4 : Int32)) (lv' := [(1, .int (4 : Int32)), (0, .ref q0)]) hx hb dX2_init_27 hl (k := 0) rfl (by first | rfl | decide) (by decide) rfl (fun ls hl => ?_)
  refine lv_goto (tgt := 14) hx hb dX2_init_30 (by decide) ?_
  refine lv_iload_n hx hb dX2_init_14 rfl (lv_at hl 0 rfl) ?_
  refine lv_bipush (v := 16) hx hb dX2_init_15 (by decide) ?_
  refine lv_icmp_ge (tgt := 33) hx hb dX2_init_17 (by decide) (fun z => absurd z (by decide)) (fun _ => ?_)
  refine lv_aload_n hx hb dX2_init_20 rfl (lv_at hl 1 rfl) ?_
  refine va_get (D := D) hx hb hts hiX2 hown hK.1 hP 0 rfl rfl 0 (by decide) (hts (.fieldLink RX2 9 "FencePilot$ModeLog" "changes" "[I") (by decide +kernel)) (fun _ h9 => h9) rfl dX2_init_21 ?_
  refine lv_iload_n hx hb dX2_init_24 rfl (lv_at hl 0 rfl) ?_
  refine lv_iconst (v := -1) hx hb dX2_init_25 (by decide) ?_
  refine va_iast hx hb hK.1 hP hD hS 1 0 rfl rfl (by unfold vp_in; decide) dX2_init_26 (fun H locs hP hD hS => ?_)
  have hP : va_P D vwCl [(q0, .inr (2, [.ref qa_1, .int 0, .int 0])), (qa_1, .inl (cI, 16, .inl (upd (upd (upd (upd (upd (fun _ => 0) (0 : Int32).toNatClampNeg (-1 : Int32)) (1 : Int32).toNatClampNeg (-1 : Int32)) (2 : Int32).toNatClampNeg (-1 : Int32)) (3 : Int32).toNatClampNeg (-1 : Int32)) (4 : Int32).toNatClampNeg (-1 : Int32))))] H := hP
  have hD : va_D A [(q0, .inr (2, [.ref qa_1, .int 0, .int 0])), (qa_1, .inl (cI, 16, .inl (upd (upd (upd (upd (upd (fun _ => 0) (0 : Int32).toNatClampNeg (-1 : Int32)) (1 : Int32).toNatClampNeg (-1 : Int32)) (2 : Int32).toNatClampNeg (-1 : Int32)) (3 : Int32).toNatClampNeg (-1 : Int32)) (4 : Int32).toNatClampNeg (-1 : Int32))))] := hD
  refine lv_iinc (v := (5 : Int32)) (lv' := [(1, .int (5 : Int32)), (0, .ref q0)]) hx hb dX2_init_27 hl (k := 0) rfl (by first | rfl | decide) (by decide) rfl (fun ls hl => ?_)
  refine lv_goto (tgt := 14) hx hb dX2_init_30 (by decide) ?_
  refine lv_iload_n hx hb dX2_init_14 rfl (lv_at hl 0 rfl) ?_
  refine lv_bipush (v := 16) hx hb dX2_init_15 (by decide) ?_
  refine lv_icmp_ge (tgt := 33) hx hb dX2_init_17 (by decide) (fun z => absurd z (by decide)) (fun _ => ?_)
  refine lv_aload_n hx hb dX2_init_20 rfl (lv_at hl 1 rfl) ?_
  refine va_get (D := D) hx hb hts hiX2 hown hK.1 hP 0 rfl rfl 0 (by decide) (hts (.fieldLink RX2 9 "FencePilot$ModeLog" "changes" "[I") (by decide +kernel)) (fun _ h9 => h9) rfl dX2_init_21 ?_
  refine lv_iload_n hx hb dX2_init_24 rfl (lv_at hl 0 rfl) ?_
  refine lv_iconst (v := -1) hx hb dX2_init_25 (by decide) ?_
  refine va_iast hx hb hK.1 hP hD hS 1 0 rfl rfl (by unfold vp_in; decide) dX2_init_26 (fun H locs hP hD hS => ?_)
  have hP : va_P D vwCl [(q0, .inr (2, [.ref qa_1, .int 0, .int 0])), (qa_1, .inl (cI, 16, .inl (upd (upd (upd (upd (upd (upd (fun _ => 0) (0 : Int32).toNatClampNeg (-1 : Int32)) (1 : Int32).toNatClampNeg (-1 : Int32)) (2 : Int32).toNatClampNeg (-1 : Int32)) (3 : Int32).toNatClampNeg (-1 : Int32)) (4 : Int32).toNatClampNeg (-1 : Int32)) (5 : Int32).toNatClampNeg (-1 : Int32))))] H := hP
  have hD : va_D A [(q0, .inr (2, [.ref qa_1, .int 0, .int 0])), (qa_1, .inl (cI, 16, .inl (upd (upd (upd (upd (upd (upd (fun _ => 0) (0 : Int32).toNatClampNeg (-1 : Int32)) (1 : Int32).toNatClampNeg (-1 : Int32)) (2 : Int32).toNatClampNeg (-1 : Int32)) (3 : Int32).toNatClampNeg (-1 : Int32)) (4 : Int32).toNatClampNeg (-1 : Int32)) (5 : Int32).toNatClampNeg (-1 : Int32))))] := hD
  refine lv_iinc (v := (6 : Int32)) (lv' := [(1, .int (6 : Int32)), (0, .ref q0)]) hx hb dX2_init_27 hl (k := 0) rfl (by first | rfl | decide) (by decide) rfl (fun ls hl => ?_)
  refine lv_goto (tgt := 14) hx hb dX2_init_30 (by decide) ?_
  refine lv_iload_n hx hb dX2_init_14 rfl (lv_at hl 0 rfl) ?_
  refine lv_bipush (v := 16) hx hb dX2_init_15 (by decide) ?_
  refine lv_icmp_ge (tgt := 33) hx hb dX2_init_17 (by decide) (fun z => absurd z (by decide)) (fun _ => ?_)
  refine lv_aload_n hx hb dX2_init_20 rfl (lv_at hl 1 rfl) ?_
  refine va_get (D := D) hx hb hts hiX2 hown hK.1 hP 0 rfl rfl 0 (by decide) (hts (.fieldLink RX2 9 "FencePilot$ModeLog" "changes" "[I") (by decide +kernel)) (fun _ h9 => h9) rfl dX2_init_21 ?_
  refine lv_iload_n hx hb dX2_init_24 rfl (lv_at hl 0 rfl) ?_
  refine lv_iconst (v := -1) hx hb dX2_init_25 (by decide) ?_
  refine va_iast hx hb hK.1 hP hD hS 1 0 rfl rfl (by unfold vp_in; decide) dX2_init_26 (fun H locs hP hD hS => ?_)
  have hP : va_P D vwCl [(q0, .inr (2, [.ref qa_1, .int 0, .int 0])), (qa_1, .inl (cI, 16, .inl (upd (upd (upd (upd (upd (upd (upd (fun _ => 0) (0 : Int32).toNatClampNeg (-1 : Int32)) (1 : Int32).toNatClampNeg (-1 : Int32)) (2 : Int32).toNatClampNeg (-1 : Int32)) (3 : Int32).toNatClampNeg (-1 : Int32)) (4 : Int32).toNatClampNeg (-1 : Int32)) (5 : Int32).toNatClampNeg (-1 : Int32)) (6 : Int32).toNatClampNeg (-1 : Int32))))] H := hP
  have hD : va_D A [(q0, .inr (2, [.ref qa_1, .int 0, .int 0])), (qa_1, .inl (cI, 16, .inl (upd (upd (upd (upd (upd (upd (upd (fun _ => 0) (0 : Int32).toNatClampNeg (-1 : Int32)) (1 : Int32).toNatClampNeg (-1 : Int32)) (2 : Int32).toNatClampNeg (-1 : Int32)) (3 : Int32).toNatClampNeg (-1 : Int32)) (4 : Int32).toNatClampNeg (-1 : Int32)) (5 : Int32).toNatClampNeg (-1 : Int32)) (6 : Int32).toNatClampNeg (-1 : Int32))))] := hD
  refine lv_iinc (v := (7 : Int32)) (lv' := [(1, .int (7 : Int32)), (0, .ref q0)]) hx hb dX2_init_27 hl (k := 0) rfl (by first | rfl | decide) (by decide) rfl (fun ls hl => ?_)
  refine lv_goto (tgt := 14) hx hb dX2_init_30 (by decide) ?_
  refine lv_iload_n hx hb dX2_init_14 rfl (lv_at hl 0 rfl) ?_
  refine lv_bipush (v := 16) hx hb dX2_init_15 (by decide) ?_
  refine lv_icmp_ge (tgt := 33) hx hb dX2_init_17 (by decide) (fun z => absurd z (by decide)) (fun _ => ?_)
  refine lv_aload_n hx hb dX2_init_20 rfl (lv_at hl 1 rfl) ?_
  refine va_get (D := D) hx hb hts hiX2 hown hK.1 hP 0 rfl rfl 0 (by decide) (hts (.fieldLink RX2 9 "FencePilot$ModeLog" "changes" "[I") (by decide +kernel)) (fun _ h9 => h9) rfl dX2_init_21 ?_
  refine lv_iload_n hx hb dX2_init_24 rfl (lv_at hl 0 rfl) ?_
  refine lv_iconst (v := -1) hx hb dX2_init_25 (by decide) ?_
  refine va_iast hx hb hK.1 hP hD hS 1 0 rfl rfl (by unfold vp_in; decide) dX2_init_26 (fun H locs hP hD hS => ?_)
  have hP : va_P D vwCl [(q0, .inr (2, [.ref qa_1, .int 0, .int 0])), (qa_1, .inl (cI, 16, .inl (upd (upd (upd (upd (upd (upd (upd (upd (fun _ => 0) (0 : Int32).toNatClampNeg (-1 : Int32)) (1 : Int32).toNatClampNeg (-1 : Int32)) (2 : Int32).toNatClampNeg (-1 : Int32)) (3 : Int32).toNatClampNeg (-1 : Int32)) (4 : Int32).toNatClampNeg (-1 : Int32)) (5 : Int32).toNatClampNeg (-1 : Int32)) (6 : Int32).toNatClampNeg (-1 : Int32)) (7 : Int32).toNatClampNeg (-1 : Int32))))] H := hP
  have hD : va_D A [(q0, .inr (2, [.ref qa_1, .int 0, .int 0])), (qa_1, .inl (cI, 16, .inl (upd (upd (upd (upd (upd (upd (upd (upd (fun _ => 0) (0 : Int32).toNatClampNeg (-1 : Int32)) (1 : Int32).toNatClampNeg (-1 : Int32)) (2 : Int32).toNatClampNeg (-1 : Int32)) (3 : Int32).toNatClampNeg (-1 : Int32)) (4 : Int32).toNatClampNeg (-1 : Int32)) (5 : Int32).toNatClampNeg (-1 : Int32)) (6 : Int32).toNatClampNeg (-1 : Int32)) (7 : Int32).toNatClampNeg (-1 : Int32))))] := hD
  refine lv_iinc (v := (8 : Int32)) (lv' := [(1, .int (8 : Int32)), (0, .ref q0)]) hx hb dX2_init_27 hl (k := 0) rfl (by first | rfl | decide) (by decide) rfl (fun ls hl => ?_)
  refine lv_goto (tgt := 14) hx hb dX2_init_30 (by decide) ?_
  refine lv_iload_n hx hb dX2_init_14 rfl (lv_at hl 0 rfl) ?_
  refine lv_bipush (v := 16) hx hb dX2_init_15 (by decide) ?_
  refine lv_icmp_ge (tgt := 33) hx hb dX2_init_17 (by decide) (fun z => absurd z (by decide)) (fun _ => ?_)
  refine lv_aload_n hx hb dX2_init_20 rfl (lv_at hl 1 rfl) ?_
  refine va_get (D := D) hx hb hts hiX2 hown hK.1 hP 0 rfl rfl 0 (by decide) (hts (.fieldLink RX2 9 "FencePilot$ModeLog" "changes" "[I") (by decide +kernel)) (fun _ h9 => h9) rfl dX2_init_21 ?_
  refine lv_iload_n hx hb dX2_init_24 rfl (lv_at hl 0 rfl) ?_
  refine lv_iconst (v := -1) hx hb dX2_init_25 (by decide) ?_
  refine va_iast hx hb hK.1 hP hD hS 1 0 rfl rfl (by unfold vp_in; decide) dX2_init_26 (fun H locs hP hD hS => ?_)
  have hP : va_P D vwCl [(q0, .inr (2, [.ref qa_1, .int 0, .int 0])), (qa_1, .inl (cI, 16, .inl (upd (upd (upd (upd (upd (upd (upd (upd (upd (fun _ => 0) (0 : Int32).toNatClampNeg (-1 : Int32)) (1 : Int32).toNatClampNeg (-1 : Int32)) (2 : Int32).toNatClampNeg (-1 : Int32)) (3 : Int32).toNatClampNeg (-1 : Int32)) (4 : Int32).toNatClampNeg (-1 : Int32)) (5 : Int32).toNatClampNeg (-1 : Int32)) (6 : Int32).toNatClampNeg (-1 : Int32)) (7 : Int32).toNatClampNeg (-1 : Int32)) (8 : Int32).toNatClampNeg (-1 : Int32))))] H := hP
  have hD : va_D A [(q0, .inr (2, [.ref qa_1, .int 0, .int 0])), (qa_1, .inl (cI, 16, .inl (upd (upd (upd (upd (upd (upd (upd (upd (upd (fun _ => 0) (0 : Int32).toNatClampNeg (-1 : Int32)) (1 : Int32).toNatClampNeg (-1 : Int32)) (2 : Int32).toNatClampNeg (-1 : Int32)) (3 : Int32).toNatClampNeg (-1 : Int32)) (4 : Int32).toNatClampNeg (-1 : Int32)) (5 : Int32).toNatClampNeg (-1 : Int32)) (6 : Int32).toNatClampNeg (-1 : Int32)) (7 : Int32).toNatClampNeg (-1 : Int32)) (8 : Int32).toNatClampNeg (-1 : Int32))))] := hD
  refine lv_iinc (v := (9 : Int32)) (lv' := [(1, .int (9 : Int32)), (0, .ref q0)]) hx hb dX2_init_27 hl (k := 0) rfl (by first | rfl | decide) (by decide) rfl (fun ls hl => ?_)
  refine lv_goto (tgt := 14) hx hb dX2_init_30 (by decide) ?_
  refine lv_iload_n hx hb dX2_init_14 rfl (lv_at hl 0 rfl) ?_
  refine lv_bipush (v := 16) hx hb dX2_init_15 (by decide) ?_
  refine lv_icmp_ge (tgt := 33) hx hb dX2_init_17 (by decide) (fun z => absurd z (by decide)) (fun _ => ?_)
  refine lv_aload_n hx hb dX2_init_20 rfl (lv_at hl 1 rfl) ?_
  refine va_get (D := D) hx hb hts hiX2 hown hK.1 hP 0 rfl rfl 0 (by decide) (hts (.fieldLink RX2 9 "FencePilot$ModeLog" "changes" "[I") (by decide +kernel)) (fun _ h9 => h9) rfl dX2_init_21 ?_
  refine lv_iload_n hx hb dX2_init_24 rfl (lv_at hl 0 rfl) ?_
  refine lv_iconst (v := -1) hx hb dX2_init_25 (by decide) ?_
  refine va_iast hx hb hK.1 hP hD hS 1 0 rfl rfl (by unfold vp_in; decide) dX2_init_26 (fun H locs hP hD hS => ?_)
  have hP : va_P D vwCl [(q0, .inr (2, [.ref qa_1, .int 0, .int 0])), (qa_1, .inl (cI, 16, .inl (upd (upd (upd (upd (upd (upd (upd (upd (upd (upd (fun _ => 0) (0 : Int32).toNatClampNeg (-1 : Int32)) (1 : Int32).toNatClampNeg (-1 : Int32)) (2 : Int32).toNatClampNeg (-1 : Int32)) (3 : Int32).toNatClampNeg (-1 : Int32)) (4 : Int32).toNatClampNeg (-1 : Int32)) (5 : Int32).toNatClampNeg (-1 : Int32)) (6 : Int32).toNatClampNeg (-1 : Int32)) (7 : Int32).toNatClampNeg (-1 : Int32)) (8 : Int32).toNatClampNeg (-1 : Int32)) (9 : Int32).toNatClampNeg (-1 : Int32))))] H := hP
  have hD : va_D A [(q0, .inr (2, [.ref qa_1, .int 0, .int 0])), (qa_1, .inl (cI, 16, .inl (upd (upd (upd (upd (upd (upd (upd (upd (upd (upd (fun _ => 0) (0 : Int32).toNatClampNeg (-1 : Int32)) (1 : Int32).toNatClampNeg (-1 : Int32)) (2 : Int32).toNatClampNeg (-1 : Int32)) (3 : Int32).toNatClampNeg (-1 : Int32)) (4 : Int32).toNatClampNeg (-1 : Int32)) (5 : Int32).toNatClampNeg (-1 : Int32)) (6 : Int32).toNatClampNeg (-1 : Int32)) (7 : Int32).toNatClampNeg (-1 : Int32)) (8 : Int32).toNatClampNeg (-1 : Int32)) (9 : Int32).toNatClampNeg (-1 : Int32))))] := hD
  refine lv_iinc (v := (10 : Int32)) (lv' := [(1, .int (10 : Int32)), (0, .ref q0)]) hx hb dX2_init_27 hl (k := 0) rfl (by first | rfl | decide) (by decide) rfl (fun ls hl => ?_)
  refine lv_goto (tgt := 14) hx hb dX2_init_30 (by decide) ?_
  refine lv_iload_n hx hb dX2_init_14 rfl (lv_at hl 0 rfl) ?_
  refine lv_bipush (v := 16) hx hb dX2_init_15 (by decide) ?_
  refine lv_icmp_ge (tgt := 33) hx hb dX2_init_17 (by decide) (fun z => absurd z (by decide)) (fun _ => ?_)
  refine lv_aload_n hx hb dX2_init_20 rfl (lv_at hl 1 rfl) ?_
  refine va_get (D := D) hx hb hts hiX2 hown hK.1 hP 0 rfl rfl 0 (by decide) (hts (.fieldLink RX2 9 "FencePilot$ModeLog" "changes" "[I") (by decide +kernel)) (fun _ h9 => h9) rfl dX2_init_21 ?_
  refine lv_iload_n hx hb dX2_init_24 rfl (lv_at hl 0 rfl) ?_
  refine lv_iconst (v := -1) hx hb dX2_init_25 (by decide) ?_
  refine va_iast hx hb hK.1 hP hD hS 1 0 rfl rfl (by unfold vp_in; decide) dX2_init_26 (fun H locs hP hD hS => ?_)
  have hP : va_P D vwCl [(q0, .inr (2, [.ref qa_1, .int 0, .int 0])), (qa_1, .inl (cI, 16, .inl (upd (upd (upd (upd (upd (upd (upd (upd (upd (upd (upd (fun _ => 0) (0 : Int32).toNatClampNeg (-1 : Int32)) (1 : Int32).toNatClampNeg (-1 : Int32)) (2 : Int32).toNatClampNeg (-1 : Int32)) (3 : Int32).toNatClampNeg (-1 : Int32)) (4 : Int32).toNatClampNeg (-1 : Int32)) (5 : Int32).toNatClampNeg (-1 : Int32)) (6 : Int32).toNatClampNeg (-1 : Int32)) (7 : Int32).toNatClampNeg (-1 : Int32)) (8 : Int32).toNatClampNeg (-1 : Int32)) (9 : Int32).toNatClampNeg (-1 : Int32)) (10 : Int32).toNatClampNeg (-1 : Int32))))] H := hP
  have hD : va_D A [(q0, .inr (2, [.ref qa_1, .int 0, .int 0])), (qa_1, .inl (cI, 16, .inl (upd (upd (upd (upd (upd (upd (upd (upd (upd (upd (upd (fun _ => 0) (0 : Int32).toNatClampNeg (-1 : Int32)) (1 : Int32).toNatClampNeg (-1 : Int32)) (2 : Int32).toNatClampNeg (-1 : Int32)) (3 : Int32).toNatClampNeg (-1 : Int32)) (4 : Int32).toNatClampNeg (-1 : Int32)) (5 : Int32).toNatClampNeg (-1 : Int32)) (6 : Int32).toNatClampNeg (-1 : Int32)) (7 : Int32).toNatClampNeg (-1 : Int32)) (8 : Int32).toNatClampNeg (-1 : Int32)) (9 : Int32).toNatClampNeg (-1 : Int32)) (10 : Int32).toNatClampNeg (-1 : Int32))))] := hD
  refine lv_iinc (v := (11 : Int32)) (lv' := [(1, .int (11 : Int32)), (0, .ref q0)]) hx hb dX2_init_27 hl (k := 0) rfl (by first | rfl | decide) (by decide) rfl (fun ls hl => ?_)
  refine lv_goto (tgt := 14) hx hb dX2_init_30 (by decide) ?_
  refine lv_iload_n hx hb dX2_init_14 rfl (lv_at hl 0 rfl) ?_
  refine lv_bipush (v := 16) hx hb dX2_init_15 (by decide) ?_
  refine lv_icmp_ge (tgt := 33) hx hb dX2_init_17 (by decide) (fun z => absurd z (by decide)) (fun _ => ?_)
  refine lv_aload_n hx hb dX2_init_20 rfl (lv_at hl 1 rfl) ?_
  refine va_get (D := D) hx hb hts hiX2 hown hK.1 hP 0 rfl rfl 0 (by decide) (hts (.fieldLink RX2 9 "FencePilot$ModeLog" "changes" "[I") (by decide +kernel)) (fun _ h9 => h9) rfl dX2_init_21 ?_
  refine lv_iload_n hx hb dX2_init_24 rfl (lv_at hl 0 rfl) ?_
  refine lv_iconst (v := -1) hx hb dX2_init_25 (by decide) ?_
  refine va_iast hx hb hK.1 hP hD hS 1 0 rfl rfl (by unfold vp_in; decide) dX2_init_26 (fun H locs hP hD hS => ?_)
  have hP : va_P D vwCl [(q0, .inr (2, [.ref qa_1, .int 0, .int 0])), (qa_1, .inl (cI, 16, .inl (upd (upd (upd (upd (upd (upd (upd (upd (upd (upd (upd (upd (fun _ => 0) (0 : Int32).toNatClampNeg (-1 : Int32)) (1 : Int32).toNatClampNeg (-1 : Int32)) (2 : Int32).toNatClampNeg (-1 : Int32)) (3 : Int32).toNatClampNeg (-1 : Int32)) (4 : Int32).toNatClampNeg (-1 : Int32)) (5 : Int32).toNatClampNeg (-1 : Int32)) (6 : Int32).toNatClampNeg (-1 : Int32)) (7 : Int32).toNatClampNeg (-1 : Int32)) (8 : Int32).toNatClampNeg (-1 : Int32)) (9 : Int32).toNatClampNeg (-1 : Int32)) (10 : Int32).toNatClampNeg (-1 : Int32)) (11 : Int32).toNatClampNeg (-1 : Int32))))] H := hP
  have hD : va_D A [(q0, .inr (2, [.ref qa_1, .int 0, .int 0])), (qa_1, .inl (cI, 16, .inl (upd (upd (upd (upd (upd (upd (upd (upd (upd (upd (upd (upd (fun _ => 0) (0 : Int32).toNatClampNeg (-1 : Int32)) (1 : Int32).toNatClampNeg (-1 : Int32)) (2 : Int32).toNatClampNeg (-1 : Int32)) (3 : Int32).toNatClampNeg (-1 : Int32)) (4 : Int32).toNatClampNeg (-1 : Int32)) (5 : Int32).toNatClampNeg (-1 : Int32)) (6 : Int32).toNatClampNeg (-1 : Int32)) (7 : Int32).toNatClampNeg (-1 : Int32)) (8 : Int32).toNatClampNeg (-1 : Int32)) (9 : Int32).toNatClampNeg (-1 : Int32)) (10 : Int32).toNatClampNeg (-1 : Int32)) (11 : Int32).toNatClampNeg (-1 : Int32))))] := hD
  refine lv_iinc (v := (12 : Int32)) (lv' := [(1, .int (12 : Int32)), (0, .ref q0)]) hx hb dX2_init_27 hl (k := 0) rfl (by first | rfl | decide) (by decide) rfl (fun ls hl => ?_)
  refine lv_goto (tgt := 14) hx hb dX2_init_30 (by decide) ?_
  refine lv_iload_n hx hb dX2_init_14 rfl (lv_at hl 0 rfl) ?_
  refine lv_bipush (v := 16) hx hb dX2_init_15 (by decide) ?_
  refine lv_icmp_ge (tgt := 33) hx hb dX2_init_17 (by decide) (fun z => absurd z (by decide)) (fun _ => ?_)
  refine lv_aload_n hx hb dX2_init_20 rfl (lv_at hl 1 rfl) ?_
  refine va_get (D := D) hx hb hts hiX2 hown hK.1 hP 0 rfl rfl 0 (by decide) (hts (.fieldLink RX2 9 "FencePilot$ModeLog" "changes" "[I") (by decide +kernel)) (fun _ h9 => h9) rfl dX2_init_21 ?_
  refine lv_iload_n hx hb dX2_init_24 rfl (lv_at hl 0 rfl) ?_
  refine lv_iconst (v := -1) hx hb dX2_init_25 (by decide) ?_
  refine va_iast hx hb hK.1 hP hD hS 1 0 rfl rfl (by unfold vp_in; decide) dX2_init_26 (fun H locs hP hD hS => ?_)
  have hP : va_P D vwCl [(q0, .inr (2, [.ref qa_1, .int 0, .int 0])), (qa_1, .inl (cI, 16, .inl (upd (upd (upd (upd (upd (upd (upd (upd (upd (upd (upd (upd (upd (fun _ => 0) (0 : Int32).toNatClampNeg (-1 : Int32)) (1 : Int32).toNatClampNeg (-1 : Int32)) (2 : Int32).toNatClampNeg (-1 : Int32)) (3 : Int32).toNatClampNeg (-1 : Int32)) (4 : Int32).toNatClampNeg (-1 : Int32)) (5 : Int32).toNatClampNeg (-1 : Int32)) (6 : Int32).toNatClampNeg (-1 : Int32)) (7 : Int32).toNatClampNeg (-1 : Int32)) (8 : Int32).toNatClampNeg (-1 : Int32)) (9 : Int32).toNatClampNeg (-1 : Int32)) (10 : Int32).toNatClampNeg (-1 : Int32)) (11 : Int32).toNatClampNeg (-1 : Int32)) (12 : Int32).toNatClampNeg (-1 : Int32))))] H := hP
  have hD : va_D A [(q0, .inr (2, [.ref qa_1, .int 0, .int 0])), (qa_1, .inl (cI, 16, .inl (upd (upd (upd (upd (upd (upd (upd (upd (upd (upd (upd (upd (upd (fun _ => 0) (0 : Int32).toNatClampNeg (-1 : Int32)) (1 : Int32).toNatClampNeg (-1 : Int32)) (2 : Int32).toNatClampNeg (-1 : Int32)) (3 : Int32).toNatClampNeg (-1 : Int32)) (4 : Int32).toNatClampNeg (-1 : Int32)) (5 : Int32).toNatClampNeg (-1 : Int32)) (6 : Int32).toNatClampNeg (-1 : Int32)) (7 : Int32).toNatClampNeg (-1 : Int32)) (8 : Int32).toNatClampNeg (-1 : Int32)) (9 : Int32).toNatClampNeg (-1 : Int32)) (10 : Int32).toNatClampNeg (-1 : Int32)) (11 : Int32).toNatClampNeg (-1 : Int32)) (12 : Int32).toNatClampNeg (-1 : Int32))))] := hD
  refine lv_iinc (v := (13 : Int32)) (lv' := [(1, .int (13 : Int32)), (0, .ref q0)]) hx hb dX2_init_27 hl (k := 0) rfl (by first | rfl | decide) (by decide) rfl (fun ls hl => ?_)
  refine lv_goto (tgt := 14) hx hb dX2_init_30 (by decide) ?_
  refine lv_iload_n hx hb dX2_init_14 rfl (lv_at hl 0 rfl) ?_
  refine lv_bipush (v := 16) hx hb dX2_init_15 (by decide) ?_
  refine lv_icmp_ge (tgt := 33) hx hb dX2_init_17 (by decide) (fun z => absurd z (by decide)) (fun _ => ?_)
  refine lv_aload_n hx hb dX2_init_20 rfl (lv_at hl 1 rfl) ?_
  refine va_get (D := D) hx hb hts hiX2 hown hK.1 hP 0 rfl rfl 0 (by decide) (hts (.fieldLink RX2 9 "FencePilot$ModeLog" "changes" "[I") (by decide +kernel)) (fun _ h9 => h9) rfl dX2_init_21 ?_
  refine lv_iload_n hx hb dX2_init_24 rfl (lv_at hl 0 rfl) ?_
  refine lv_iconst (v := -1) hx hb dX2_init_25 (by decide) ?_
  refine va_iast hx hb hK.1 hP hD hS 1 0 rfl rfl (by unfold vp_in; decide) dX2_init_26 (fun H locs hP hD hS => ?_)
  have hP : va_P D vwCl [(q0, .inr (2, [.ref qa_1, .int 0, .int 0])), (qa_1, .inl (cI, 16, .inl (upd (upd (upd (upd (upd (upd (upd (upd (upd (upd (upd (upd (upd (upd (fun _ => 0) (0 : Int32).toNatClampNeg (-1 : Int32)) (1 : Int32).toNatClampNeg (-1 : Int32)) (2 : Int32).toNatClampNeg (-1 : Int32)) (3 : Int32).toNatClampNeg (-1 : Int32)) (4 : Int32).toNatClampNeg (-1 : Int32)) (5 : Int32).toNatClampNeg (-1 : Int32)) (6 : Int32).toNatClampNeg (-1 : Int32)) (7 : Int32).toNatClampNeg (-1 : Int32)) (8 : Int32).toNatClampNeg (-1 : Int32)) (9 : Int32).toNatClampNeg (-1 : Int32)) (10 : Int32).toNatClampNeg (-1 : Int32)) (11 : Int32).toNatClampNeg (-1 : Int32)) (12 : Int32).toNatClampNeg (-1 : Int32)) (13 : Int32).toNatClampNeg (-1 : Int32))))] H := hP
  have hD : va_D A [(q0, .inr (2, [.ref qa_1, .int 0, .int 0])), (qa_1, .inl (cI, 16, .inl (upd (upd (upd (upd (upd (upd (upd (upd (upd (upd (upd (upd (upd (upd (fun _ => 0) (0 : Int32).toNatClampNeg (-1 : Int32)) (1 : Int32).toNatClampNeg (-1 : Int32)) (2 : Int32).toNatClampNeg (-1 : Int32)) (3 : Int32).toNatClampNeg (-1 : Int32)) (4 : Int32).toNatClampNeg (-1 : Int32)) (5 : Int32).toNatClampNeg (-1 : Int32)) (6 : Int32).toNatClampNeg (-1 : Int32)) (7 : Int32).toNatClampNeg (-1 : Int32)) (8 : Int32).toNatClampNeg (-1 : Int32)) (9 : Int32).toNatClampNeg (-1 : Int32)) (10 : Int32).toNatClampNeg (-1 : Int32)) (11 : Int32).toNatClampNeg (-1 : Int32)) (12 : Int32).toNatClampNeg (-1 : Int32)) (13 : Int32).toNatClampNeg (-1 : Int32))))] := hD
  refine lv_iinc (v := (14 : Int32)) (lv' := [(1, .int (14 : Int32)), (0, .ref q0)]) hx hb dX2_init_27 hl (k := 0) rfl (by first | rfl | decide) (by decide) rfl (fun ls hl => ?_)
  refine lv_goto (tgt := 14) hx hb dX2_init_30 (by decide) ?_
  refine lv_iload_n hx hb dX2_init_14 rfl (lv_at hl 0 rfl) ?_
  refine lv_bipush (v := 16) hx hb dX2_init_15 (by decide) ?_
  refine lv_icmp_ge (tgt := 33) hx hb dX2_init_17 (by decide) (fun z => absurd z (by decide)) (fun _ => ?_)
  refine lv_aload_n hx hb dX2_init_20 rfl (lv_at hl 1 rfl) ?_
  refine va_get (D := D) hx hb hts hiX2 hown hK.1 hP 0 rfl rfl 0 (by decide) (hts (.fieldLink RX2 9 "FencePilot$ModeLog" "changes" "[I") (by decide +kernel)) (fun _ h9 => h9) rfl dX2_init_21 ?_
  refine lv_iload_n hx hb dX2_init_24 rfl (lv_at hl 0 rfl) ?_
  refine lv_iconst (v := -1) hx hb dX2_init_25 (by decide) ?_
  refine va_iast hx hb hK.1 hP hD hS 1 0 rfl rfl (by unfold vp_in; decide) dX2_init_26 (fun H locs hP hD hS => ?_)
  have hP : va_P D vwCl [(q0, .inr (2, [.ref qa_1, .int 0, .int 0])), (qa_1, .inl (cI, 16, .inl (upd (upd (upd (upd (upd (upd (upd (upd (upd (upd (upd (upd (upd (upd (upd (fun _ => 0) (0 : Int32).toNatClampNeg (-1 : Int32)) (1 : Int32).toNatClampNeg (-1 : Int32)) (2 : Int32).toNatClampNeg (-1 : Int32)) (3 : Int32).toNatClampNeg (-1 : Int32)) (4 : Int32).toNatClampNeg (-1 : Int32)) (5 : Int32).toNatClampNeg (-1 : Int32)) (6 : Int32).toNatClampNeg (-1 : Int32)) (7 : Int32).toNatClampNeg (-1 : Int32)) (8 : Int32).toNatClampNeg (-1 : Int32)) (9 : Int32).toNatClampNeg (-1 : Int32)) (10 : Int32).toNatClampNeg (-1 : Int32)) (11 : Int32).toNatClampNeg (-1 : Int32)) (12 : Int32).toNatClampNeg (-1 : Int32)) (13 : Int32).toNatClampNeg (-1 : Int32)) (14 : Int32).toNatClampNeg (-1 : Int32))))] H := hP
  have hD : va_D A [(q0, .inr (2, [.ref qa_1, .int 0, .int 0])), (qa_1, .inl (cI, 16, .inl (upd (upd (upd (upd (upd (upd (upd (upd (upd (upd (upd (upd (upd (upd (upd (fun _ => 0) (0 : Int32).toNatClampNeg (-1 : Int32)) (1 : Int32).toNatClampNeg (-1 : Int32)) (2 : Int32).toNatClampNeg (-1 : Int32)) (3 : Int32).toNatClampNeg (-1 : Int32)) (4 : Int32).toNatClampNeg (-1 : Int32)) (5 : Int32).toNatClampNeg (-1 : Int32)) (6 : Int32).toNatClampNeg (-1 : Int32)) (7 : Int32).toNatClampNeg (-1 : Int32)) (8 : Int32).toNatClampNeg (-1 : Int32)) (9 : Int32).toNatClampNeg (-1 : Int32)) (10 : Int32).toNatClampNeg (-1 : Int32)) (11 : Int32).toNatClampNeg (-1 : Int32)) (12 : Int32).toNatClampNeg (-1 : Int32)) (13 : Int32).toNatClampNeg (-1 : Int32)) (14 : Int32).toNatClampNeg (-1 : Int32))))] := hD
  refine lv_iinc (v := (15 : Int32)) (lv' := [(1, .int (15 : Int32)), (0, .ref q0)]) hx hb dX2_init_27 hl (k := 0) rfl (by first | rfl | decide) (by decide) rfl (fun ls hl => ?_)
  refine lv_goto (tgt := 14) hx hb dX2_init_30 (by decide) ?_
  refine lv_iload_n hx hb dX2_init_14 rfl (lv_at hl 0 rfl) ?_
  refine lv_bipush (v := 16) hx hb dX2_init_15 (by decide) ?_
  refine lv_icmp_ge (tgt := 33) hx hb dX2_init_17 (by decide) (fun z => absurd z (by decide)) (fun _ => ?_)
  refine lv_aload_n hx hb dX2_init_20 rfl (lv_at hl 1 rfl) ?_
  refine va_get (D := D) hx hb hts hiX2 hown hK.1 hP 0 rfl rfl 0 (by decide) (hts (.fieldLink RX2 9 "FencePilot$ModeLog" "changes" "[I") (by decide +kernel)) (fun _ h9 => h9) rfl dX2_init_21 ?_
  refine lv_iload_n hx hb dX2_init_24 rfl (lv_at hl 0 rfl) ?_
  refine lv_iconst (v := -1) hx hb dX2_init_25 (by decide) ?_
  refine va_iast hx hb hK.1 hP hD hS 1 0 rfl rfl (by unfold vp_in; decide) dX2_init_26 (fun H locs hP hD hS => ?_)
  have hP : va_P D vwCl [(q0, .inr (2, [.ref qa_1, .int 0, .int 0])), (qa_1, .inl (cI, 16, .inl (upd (upd (upd (upd (upd (upd (upd (upd (upd (upd (upd (upd (upd (upd (upd (upd (fun _ => 0) (0 : Int32).toNatClampNeg (-1 : Int32)) (1 : Int32).toNatClampNeg (-1 : Int32)) (2 : Int32).toNatClampNeg (-1 : Int32)) (3 : Int32).toNatClampNeg (-1 : Int32)) (4 : Int32).toNatClampNeg (-1 : Int32)) (5 : Int32).toNatClampNeg (-1 : Int32)) (6 : Int32).toNatClampNeg (-1 : Int32)) (7 : Int32).toNatClampNeg (-1 : Int32)) (8 : Int32).toNatClampNeg (-1 : Int32)) (9 : Int32).toNatClampNeg (-1 : Int32)) (10 : Int32).toNatClampNeg (-1 : Int32)) (11 : Int32).toNatClampNeg (-1 : Int32)) (12 : Int32).toNatClampNeg (-1 : Int32)) (13 : Int32).toNatClampNeg (-1 : Int32)) (14 : Int32).toNatClampNeg (-1 : Int32)) (15 : Int32).toNatClampNeg (-1 : Int32))))] H := hP
  have hD : va_D A [(q0, .inr (2, [.ref qa_1, .int 0, .int 0])), (qa_1, .inl (cI, 16, .inl (upd (upd (upd (upd (upd (upd (upd (upd (upd (upd (upd (upd (upd (upd (upd (upd (fun _ => 0) (0 : Int32).toNatClampNeg (-1 : Int32)) (1 : Int32).toNatClampNeg (-1 : Int32)) (2 : Int32).toNatClampNeg (-1 : Int32)) (3 : Int32).toNatClampNeg (-1 : Int32)) (4 : Int32).toNatClampNeg (-1 : Int32)) (5 : Int32).toNatClampNeg (-1 : Int32)) (6 : Int32).toNatClampNeg (-1 : Int32)) (7 : Int32).toNatClampNeg (-1 : Int32)) (8 : Int32).toNatClampNeg (-1 : Int32)) (9 : Int32).toNatClampNeg (-1 : Int32)) (10 : Int32).toNatClampNeg (-1 : Int32)) (11 : Int32).toNatClampNeg (-1 : Int32)) (12 : Int32).toNatClampNeg (-1 : Int32)) (13 : Int32).toNatClampNeg (-1 : Int32)) (14 : Int32).toNatClampNeg (-1 : Int32)) (15 : Int32).toNatClampNeg (-1 : Int32))))] := hD
  refine lv_iinc (v := (16 : Int32)) (lv' := [(1, .int (16 : Int32)), (0, .ref q0)]) hx hb dX2_init_27 hl (k := 0) rfl (by first | rfl | decide) (by decide) rfl (fun ls hl => ?_)
  refine lv_goto (tgt := 14) hx hb dX2_init_30 (by decide) ?_
  refine lv_iload_n hx hb dX2_init_14 rfl (lv_at hl 0 rfl) ?_
  refine lv_bipush (v := 16) hx hb dX2_init_15 (by decide) ?_
  refine lv_icmp_ge (tgt := 33) hx hb dX2_init_17 (by decide) (fun _ => ?_) (fun z => absurd (by decide) z)
  refine lv_aload_n hx hb dX2_init_33 rfl (lv_at hl 1 rfl) ?_
  refine lv_iconst (v := 0) hx hb dX2_init_34 (by decide) ?_
  refine va_put (D := D) (ci := 2) (v := .int (0 : Int32)) (ty := .int) (C := RX2) (T := TX2) (N := 3) hx hb hts hiX2 tyX2 tyX2_ok nmX2 hown hK.1 hP hD hS 0 rfl rfl 1 (by decide) (hts (.fieldLink RX2 15 "FencePilot$ModeLog" "current" "I") (by decide +kernel)) (fun _ h9 => h9) rfl (by decide +kernel) rfl rfl (Nat.le_of_ble_eq_true rfl) dX2_init_35 (fun H locs hP hD hS => ?_)
  have hP : va_P D vwCl [(q0, .inr (2, [.ref qa_1, .int (0 : Int32), .int 0])), (qa_1, .inl (cI, 16, .inl (upd (upd (upd (upd (upd (upd (upd (upd (upd (upd (upd (upd (upd (upd (upd (upd (fun _ => 0) (0 : Int32).toNatClampNeg (-1 : Int32)) (1 : Int32).toNatClampNeg (-1 : Int32)) (2 : Int32).toNatClampNeg (-1 : Int32)) (3 : Int32).toNatClampNeg (-1 : Int32)) (4 : Int32).toNatClampNeg (-1 : Int32)) (5 : Int32).toNatClampNeg (-1 : Int32)) (6 : Int32).toNatClampNeg (-1 : Int32)) (7 : Int32).toNatClampNeg (-1 : Int32)) (8 : Int32).toNatClampNeg (-1 : Int32)) (9 : Int32).toNatClampNeg (-1 : Int32)) (10 : Int32).toNatClampNeg (-1 : Int32)) (11 : Int32).toNatClampNeg (-1 : Int32)) (12 : Int32).toNatClampNeg (-1 : Int32)) (13 : Int32).toNatClampNeg (-1 : Int32)) (14 : Int32).toNatClampNeg (-1 : Int32)) (15 : Int32).toNatClampNeg (-1 : Int32))))] H := hP
  have hD : va_D A [(q0, .inr (2, [.ref qa_1, .int (0 : Int32), .int 0])), (qa_1, .inl (cI, 16, .inl (upd (upd (upd (upd (upd (upd (upd (upd (upd (upd (upd (upd (upd (upd (upd (upd (fun _ => 0) (0 : Int32).toNatClampNeg (-1 : Int32)) (1 : Int32).toNatClampNeg (-1 : Int32)) (2 : Int32).toNatClampNeg (-1 : Int32)) (3 : Int32).toNatClampNeg (-1 : Int32)) (4 : Int32).toNatClampNeg (-1 : Int32)) (5 : Int32).toNatClampNeg (-1 : Int32)) (6 : Int32).toNatClampNeg (-1 : Int32)) (7 : Int32).toNatClampNeg (-1 : Int32)) (8 : Int32).toNatClampNeg (-1 : Int32)) (9 : Int32).toNatClampNeg (-1 : Int32)) (10 : Int32).toNatClampNeg (-1 : Int32)) (11 : Int32).toNatClampNeg (-1 : Int32)) (12 : Int32).toNatClampNeg (-1 : Int32)) (13 : Int32).toNatClampNeg (-1 : Int32)) (14 : Int32).toNatClampNeg (-1 : Int32)) (15 : Int32).toNatClampNeg (-1 : Int32))))] := hD
  refine lv_aload_n hx hb dX2_init_38 rfl (lv_at hl 1 rfl) ?_
  refine lv_iconst (v := 0) hx hb dX2_init_39 (by decide) ?_
  refine va_put (D := D) (ci := 2) (v := .int (0 : Int32)) (ty := .boolean) (C := RX2) (T := TX2) (N := 3) hx hb hts hiX2 tyX2 tyX2_ok nmX2 hown hK.1 hP hD hS 0 rfl rfl 2 (by decide) (hts (.fieldLink RX2 19 "FencePilot$ModeLog" "landForced" "Z") (by decide +kernel)) (fun _ h9 => h9) rfl (by decide +kernel) rfl rfl (Nat.le_of_ble_eq_true rfl) dX2_init_40 (fun H locs hP hD hS => ?_)
  have hP : va_P D vwCl [(q0, .inr (2, [.ref qa_1, .int (0 : Int32), .int (0 : Int32)])), (qa_1, .inl (cI, 16, .inl (upd (upd (upd (upd (upd (upd (upd (upd (upd (upd (upd (upd (upd (upd (upd (upd (fun _ => 0) (0 : Int32).toNatClampNeg (-1 : Int32)) (1 : Int32).toNatClampNeg (-1 : Int32)) (2 : Int32).toNatClampNeg (-1 : Int32)) (3 : Int32).toNatClampNeg (-1 : Int32)) (4 : Int32).toNatClampNeg (-1 : Int32)) (5 : Int32).toNatClampNeg (-1 : Int32)) (6 : Int32).toNatClampNeg (-1 : Int32)) (7 : Int32).toNatClampNeg (-1 : Int32)) (8 : Int32).toNatClampNeg (-1 : Int32)) (9 : Int32).toNatClampNeg (-1 : Int32)) (10 : Int32).toNatClampNeg (-1 : Int32)) (11 : Int32).toNatClampNeg (-1 : Int32)) (12 : Int32).toNatClampNeg (-1 : Int32)) (13 : Int32).toNatClampNeg (-1 : Int32)) (14 : Int32).toNatClampNeg (-1 : Int32)) (15 : Int32).toNatClampNeg (-1 : Int32))))] H := hP
  have hD : va_D A [(q0, .inr (2, [.ref qa_1, .int (0 : Int32), .int (0 : Int32)])), (qa_1, .inl (cI, 16, .inl (upd (upd (upd (upd (upd (upd (upd (upd (upd (upd (upd (upd (upd (upd (upd (upd (fun _ => 0) (0 : Int32).toNatClampNeg (-1 : Int32)) (1 : Int32).toNatClampNeg (-1 : Int32)) (2 : Int32).toNatClampNeg (-1 : Int32)) (3 : Int32).toNatClampNeg (-1 : Int32)) (4 : Int32).toNatClampNeg (-1 : Int32)) (5 : Int32).toNatClampNeg (-1 : Int32)) (6 : Int32).toNatClampNeg (-1 : Int32)) (7 : Int32).toNatClampNeg (-1 : Int32)) (8 : Int32).toNatClampNeg (-1 : Int32)) (9 : Int32).toNatClampNeg (-1 : Int32)) (10 : Int32).toNatClampNeg (-1 : Int32)) (11 : Int32).toNatClampNeg (-1 : Int32)) (12 : Int32).toNatClampNeg (-1 : Int32)) (13 : Int32).toNatClampNeg (-1 : Int32)) (14 : Int32).toNatClampNeg (-1 : Int32)) (15 : Int32).toNatClampNeg (-1 : Int32))))] := hD
  exact kk_rv qa_1 hx hb hr hlk dX2_init_43 hS (hP.sub [0, 1] rfl) (hD.sub [0, 1] (by decide) rfl) trivial
