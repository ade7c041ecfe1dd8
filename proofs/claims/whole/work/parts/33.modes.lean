def g_X2_enter_lp (cu : Int32) (lf : Int32) (fc : Nat → Int32) (md : Int32) (tk : Int32) : Nat → Int32 → (Nat → Int32) → (Nat → Int32) × Int32 × Int32
  | 0, _, _ => ((fun _ => 0), 0, 0)
  | fuel + 1, ix, fc2 => (if ix ≤ (0 : Int32) then ((upd fc2 (0 : Int32).toNatClampNeg (((8 : Int32) * tk) + md)), md, (0 : Int32)) else (g_X2_enter_lp cu lf fc md tk fuel (ix + (-1)) (upd fc2 ix.toNatClampNeg (fc2 (ix - (1 : Int32)).toNatClampNeg))))
def f_X2_enter (cu : Int32) (lf : Int32) (fc : Nat → Int32) (md : Int32) (tk : Int32) : (Nat → Int32) × Int32 × Int32 := (if md = cu then (fc, cu, lf) else (g_X2_enter_lp cu lf fc md tk 16 (15 : Int32) fc))
set_option maxHeartbeats 4000000 in
set_option maxRecDepth 100000 in
theorem lp_X2_enter_lp (l : Launch) (D : va_G) (cI cZ : ClassId) (q0 : Nat) (q1 : Nat) (cu : Int32) (lf : Int32) (fc : Nat → Int32) (md : Int32) (tk : Int32)   {p : Program} {e : Env} {s : State} {m : MethodId} {args : Array Value} {below : List Frame} {meth : Method} {c : Code} {A : Nat → Prop} (hX : kk_X p s m args meth c cX2_enter 4 none yX2_enter wsX2_enter A D cI cZ) (FIN : (Nat → Int32) × Int32 × Int32)  :
    ∀ (fuel : Nat) (ix : Int32) (fc2 : Nat → Int32) (H : Heap) (locs : List Loc) (ls : Array Slot), kk_J fuel ix → FIN = g_X2_enter_lp cu lf fc md tk fuel ix fc2 → va_P D vwCl [(q0, .inr (2, [.ref q1, .int md, .int (0 : Int32)])), (q1, .inl (cI, 16, .inl fc2))] H → va_D A [(q0, .inr (2, [.ref q1, .int md, .int (0 : Int32)])), (q1, .inl (cI, 16, .inl fc2))] → va_S A s.heap H locs → lv_has ls 4 [(0, .ref q0), (1, .int md), (2, .int tk), (3, .int ix)] → W p l e ({ frames := 0, cells := 0, slots := 0, locals := 0 } : Room) s m args below meth c H locs 0 0 (MQ below (va_Qv (fun (u : (Nat → Int32) × Int32 × Int32) => u = FIN) (fun u t => kk_B D A [(q0, .inr (2, [.ref q1, .int u.2.1, .int u.2.2])), (q1, .inl (cI, 16, .inl u.1))] t) A) args s 0 0 A) (F0 m 22 ls []) := by
  have hX0 := hX
  obtain ⟨hx, hb, hml, hown, hts, hr, hlk, hnm, hK, hA⟩ := hX
  have hown : s.vm.findClass RX2 = some m.cls := hown
  have hiX2 : ∀ w ∈ wsX20, w ∈ wsX2_enter := by decide +kernel
  intro fuel
  induction fuel with
  | zero =>
    intro ix fc2 H locs ls hI
    exact absurd hI kk_J0
  | succ fuel ih =>
    intro ix fc2 H locs ls hI hF hP hD hS hl
    refine lv_iload_n hx hb dX2_enter_22 rfl (lv_at hl 3 rfl) ?_
    refine lv_if_le (tgt := 46) hx hb dX2_enter_23 (by decide) (fun c_1001 => ?_) (fun c_1001 => ?_)
    · refine lv_aload_n hx hb dX2_enter_46 rfl (lv_at hl 0 rfl) ?_
      refine va_get (D := D) hx hb hts hiX2 hown hK.1 hP 0 rfl rfl 0 (by decide) (hts (.fieldLink RX2 9 "FencePilot$ModeLog" "changes" "[I") (by decide +kernel)) (fun _ h9 => h9) rfl dX2_enter_47 ?_
      refine lv_iconst (v := 0) hx hb dX2_enter_50 (by decide) ?_
      refine lv_bipush (v := 8) hx hb dX2_enter_51 (by decide) ?_
      refine lv_iload_n hx hb dX2_enter_53 rfl (lv_at hl 2 rfl) ?_
      refine lv_imul hx hb dX2_enter_54 ?_
      refine lv_iload_n hx hb dX2_enter_55 rfl (lv_at hl 1 rfl) ?_
      refine lv_iadd hx hb dX2_enter_56 ?_
      refine va_iast hx hb hK.1 hP hD hS 1 0 rfl rfl (by unfold vp_in; decide) dX2_enter_57 (fun H locs hP hD hS => ?_)
      have hP : va_P D vwCl [(q0, .inr (2, [.ref q1, .int md, .int (0 : Int32)])), (q1, .inl (cI, 16, .inl (upd fc2 (0 : Int32).toNatClampNeg (((8 : Int32) * tk) + md))))] H := hP
      have hD : va_D A [(q0, .inr (2, [.ref q1, .int md, .int (0 : Int32)])), (q1, .inl (cI, 16, .inl (upd fc2 (0 : Int32).toNatClampNeg (((8 : Int32) * tk) + md))))] := hD
      exact kk_rv ((upd fc2 (0 : Int32).toNatClampNeg (((8 : Int32) * tk) + md)), md, (0 : Int32)) hx hb hr hlk dX2_enter_58 hS (hP.sub [0, 1] rfl) (hD.sub [0, 1] (by decide) rfl) (by show ((upd fc2 (0 : Int32).toNatClampNeg (((8 : Int32) * tk) + md)), md, (0 : Int32)) = FIN; rw [hF, g_X2_enter_lp]; rw [if_pos c_1001]; try rfl)
    · refine lv_aload_n hx hb dX2_enter_26 rfl (lv_at hl 0 rfl) ?_
      refine va_get (D := D) hx hb hts hiX2 hown hK.1 hP 0 rfl rfl 0 (by decide) (hts (.fieldLink RX2 9 "FencePilot$ModeLog" "changes" "[I") (by decide +kernel)) (fun _ h9 => h9) rfl dX2_enter_27 ?_
      refine lv_iload_n hx hb dX2_enter_30 rfl (lv_at hl 3 rfl) ?_
      refine lv_aload_n hx hb dX2_enter_31 rfl (lv_at hl 0 rfl) ?_
      refine va_get (D := D) hx hb hts hiX2 hown hK.1 hP 0 rfl rfl 0 (by decide) (hts (.fieldLink RX2 9 "FencePilot$ModeLog" "changes" "[I") (by decide +kernel)) (fun _ h9 => h9) rfl dX2_enter_32 ?_
      refine lv_iload_n hx hb dX2_enter_35 rfl (lv_at hl 3 rfl) ?_
      refine lv_iconst (v := 1) hx hb dX2_enter_36 (by decide) ?_
      refine lv_isub hx hb dX2_enter_37 ?_
      refine va_iald hx hb hK.1 hP 1 0 rfl rfl (kk_Jix1 hI c_1001) dX2_enter_38 ?_
      refine va_iast hx hb hK.1 hP hD hS 1 0 rfl rfl (kk_Jix hI) dX2_enter_39 (fun H locs hP hD hS => ?_)
      have hP : va_P D vwCl [(q0, .inr (2, [.ref q1, .int md, .int (0 : Int32)])), (q1, .inl (cI, 16, .inl (upd fc2 ix.toNatClampNeg (fc2 (ix - (1 : Int32)).toNatClampNeg))))] H := hP
      have hD : va_D A [(q0, .inr (2, [.ref q1, .int md, .int (0 : Int32)])), (q1, .inl (cI, 16, .inl (upd fc2 ix.toNatClampNeg (fc2 (ix - (1 : Int32)).toNatClampNeg))))] := hD
      refine lv_iinc (v := (ix + (-1))) (lv' := [(3, .int (ix + (-1))), (0, .ref q0), (1, .int md), (2, .int tk)]) hx hb dX2_enter_40 hl (k := 3) rfl (by first | rfl | decide) (by decide) rfl (fun ls hl => ?_)
      refine lv_goto (tgt := 22) hx hb dX2_enter_43 (by decide) ?_
      exact ih (ix + (-1)) (upd fc2 ix.toNatClampNeg (fc2 (ix - (1 : Int32)).toNatClampNeg)) _ _ _ (kk_Jdn hI c_1001) (by show FIN = (g_X2_enter_lp cu lf fc md tk fuel (ix + (-1)) (upd fc2 ix.toNatClampNeg (fc2 (ix - (1 : Int32)).toNatClampNeg))); rw [hF, g_X2_enter_lp]; rw [if_neg c_1001]; try rfl) (hP.sub [0, 1] rfl) (hD.sub [0, 1] (by decide) rfl) hS (lv_sub hl [1, 2, 3, 0] rfl)
set_option maxHeartbeats 4000000 in
set_option maxRecDepth 100000 in
theorem k_X2_enter (l : Launch) (D : va_G) (cI cZ : ClassId) (q0 : Nat) (q1 : Nat) (sz : Nat) (cu : Int32) (lf : Int32) (fc : Nat → Int32) (md : Int32) (tk : Int32)  : kk_Mv l D cI cZ yX2_enter wsX2_enter ({ frames := 0, cells := 0, slots := 0, locals := 0 } : Room) [.ref q0, .int md, .int tk] sz [(q0, .inr (2, [.ref q1, .int cu, .int lf])), (q1, .inl (cI, 16, .inl fc))] (fun (u : (Nat → Int32) × Int32 × Int32) => u = f_X2_enter cu lf fc md tk) (fun u => [(q0, .inr (2, [.ref q1, .int u.2.1, .int u.2.2])), (q1, .inl (cI, 16, .inl u.1))]) 0 0 := by
  refine kk_entv (cc := cX2_enter) (maxL := 4) (ret := none) (by decide +kernel) rfl (Nat.le_of_ble_eq_true rfl) (fun p e s m args below meth c A ls hX hP hD hS hl => ?_)
  have hX0 := hX
  obtain ⟨hx, hb, hml, hown, hts, hr, hlk, hnm, hK, hA⟩ := hX
  have hown : s.vm.findClass RX2 = some m.cls := hown
  have hiX2 : ∀ w ∈ wsX20, w ∈ wsX2_enter := by decide +kernel
  have hl : lv_has ls 4 [(0, .ref q0), (1, .int md), (2, .int tk)] := hl
  refine lv_iload_n hx hb dX2_enter_0 rfl (lv_at hl 1 rfl) ?_
  refine lv_aload_n hx hb dX2_enter_1 rfl (lv_at hl 0 rfl) ?_
  refine va_get (D := D) hx hb hts hiX2 hown hK.1 hP 0 rfl rfl 1 (by decide) (hts (.fieldLink RX2 15 "FencePilot$ModeLog" "current" "I") (by decide +kernel)) (fun _ h9 => h9) rfl dX2_enter_2 ?_
  refine lv_icmp_ne (tgt := 9) hx hb dX2_enter_5 (by decide) (fun c_1 => ?_) (fun c_1 => ?_)
  · refine lv_aload_n hx hb dX2_enter_9 rfl (lv_at hl 0 rfl) ?_
    refine lv_iload_n hx hb dX2_enter_10 rfl (lv_at hl 1 rfl) ?_
    refine va_put (D := D) (ci := 2) (v := .int md) (ty := .int) (C := RX2) (T := TX2) (N := 3) hx hb hts hiX2 tyX2 tyX2_ok nmX2 hown hK.1 hP hD hS 0 rfl rfl 1 (by decide) (hts (.fieldLink RX2 15 "FencePilot$ModeLog" "current" "I") (by decide +kernel)) (fun _ h9 => h9) rfl (by decide +kernel) rfl rfl (Nat.le_of_ble_eq_true rfl) dX2_enter_11 (fun H locs hP hD hS => ?_)
    have hP : va_P D vwCl [(q0, .inr (2, [.ref q1, .int md, .int lf])), (q1, .inl (cI, 16, .inl fc))] H := hP
    have hD : va_D A [(q0, .inr (2, [.ref q1, .int md, .int lf])), (q1, .inl (cI, 16, .inl fc))] := hD
    refine lv_aload_n hx hb dX2_enter_14 rfl (lv_at hl 0 rfl) ?_
    refine lv_iconst (v := 0) hx hb dX2_enter_15 (by decide) ?_
    refine va_put (D := D) (ci := 2) (v := .int (0 : Int32)) (ty := .boolean) (C := RX2) (T := TX2) (N := 3) hx hb hts hiX2 tyX2 tyX2_ok nmX2 hown hK.1 hP hD hS 0 rfl rfl 2 (by decide) (hts (.fieldLink RX2 19 "FencePilot$ModeLog" "landForced" "Z") (by decide +kernel)) (fun _ h9 => h9) rfl (by decide +kernel) rfl rfl (Nat.le_of_ble_eq_true rfl) dX2_enter_16 (fun H locs hP hD hS => ?_)
    have hP : va_P D vwCl [(q0, .inr (2, [.ref q1, .int md, .int (0 : Int32)])), (q1, .inl (cI, 16, .inl fc))] H := hP
    have hD : va_D A [(q0, .inr (2, [.ref q1, .int md, .int (0 : Int32)])), (q1, .inl (cI, 16, .inl fc))] := hD
    refine lv_bipush (v := 15) hx hb dX2_enter_19 (by decide) ?_
    refine lv_istore_n (lv' := [(3, .int (15 : Int32)), (0, .ref q0), (1, .int md), (2, .int tk)]) hx hb dX2_enter_21 rfl hl (by decide) rfl (fun ls hl => ?_)
    exact lp_X2_enter_lp l D cI cZ q0 q1 cu lf fc md tk hX0 (f_X2_enter cu lf fc md tk) 16 (15 : Int32) fc _ _ _ ⟨by decide, by decide, by decide⟩ (by show f_X2_enter cu lf fc md tk = (g_X2_enter_lp cu lf fc md tk 16 (15 : Int32) fc); unfold f_X2_enter; rw [if_neg c_1]; try rfl) (hP.sub [0, 1] rfl) (hD.sub [0, 1] (by decide) rfl) hS (lv_sub hl [1, 2, 3, 0] rfl)
  · exact kk_rv (fc, cu, lf) hx hb hr hlk dX2_enter_8 hS (hP.sub [0, 1] rfl) (hD.sub [0, 1] (by decide) rfl) (by show (fc, cu, lf) = f_X2_enter cu lf fc md tk; unfold f_X2_enter; rw [if_pos c_1]; try rfl)
def f_X2_forceLand (cu : Int32) (lf : Int32) (fc : Nat → Int32) (tk : Int32) : (Nat → Int32) × Int32 × Int32 := (match (f_X2_enter cu lf fc (5 : Int32) tk) with | (u_1, u_2, u_3) => (u_1, u_2, (1 : Int32)))
set_option maxHeartbeats 4000000 in
set_option maxRecDepth 100000 in
theorem k_X2_forceLand (l : Launch) (D : va_G) (cI cZ : ClassId) (q0 : Nat) (q1 : Nat) (sz : Nat) (cu : Int32) (lf : Int32) (fc : Nat → Int32) (tk : Int32)  : kk_Mv l D cI cZ yX2_forceLand wsX2_forceLand ({ frames := 1, cells := 0, slots := 0, locals := 23 } : Room) [.ref q0, .int tk] sz [(q0, .inr (2, [.ref q1, .int cu, .int lf])), (q1, .inl (cI, 16, .inl fc))] (fun (u : (Nat → Int32) × Int32 × Int32) => u = f_X2_forceLand cu lf fc tk) (fun u => [(q0, .inr (2, [.ref q1, .int u.2.1, .int u.2.2])), (q1, .inl (cI, 16, .inl u.1))]) 0 0 := by
  refine kk_entv (cc := cX2_forceLand) (maxL := 2) (ret := none) (by decide +kernel) rfl (Nat.le_of_ble_eq_true rfl) (fun p e s m args below meth c A ls hX hP hD hS hl => ?_)
  obtain ⟨hx, hb, hml, hown, hts, hr, hlk, hnm, hK, hA⟩ := hX
  have hown : s.vm.findClass RX2 = some m.cls := hown
  have hiX2 : ∀ w ∈ wsX20, w ∈ wsX2_forceLand := by decide +kernel
  have hl : lv_has ls 2 [(0, .ref q0), (1, .int tk)] := hl
  refine lv_aload_n hx hb dX2_forceLand_0 rfl (lv_at hl 0 rfl) ?_
  refine lv_iconst (v := 5) hx hb dX2_forceLand_1 (by decide) ?_
  refine lv_iload_n hx hb dX2_forceLand_2 rfl (lv_at hl 1 rfl) ?_
  refine kk_cVv (wc := [(q0, .inr (2, [.ref q1, .int cu, .int lf])), (q1, .inl (cI, 16, .inl fc))]) (wr := []) ⟨hx, hb, hml, hown, hts⟩ hK hP hD hS hA [0, 1] [] (k_X2_enter l D cI cZ q0 q1 s.heap.size cu lf fc (5 : Int32) tk) (cwV 2 hts gX2_forceLand_X2_enter rfl rfl rfl (by decide +kernel) ⟨(Nat.le_of_ble_eq_true rfl), (Nat.le_of_ble_eq_true rfl)⟩) rfl rfl (by decide) (by decide) (by decide) 0 2 rfl rfl rfl rfl hl.1 rfl (Nat.le_of_ble_eq_true rfl) dX2_forceLand_3 ⟨(Nat.le_of_ble_eq_true rfl), (Nat.le_of_ble_eq_true rfl)⟩ (fun u H locs hw_5 hP hD hS => ?_)
  obtain ⟨u_1, u_2, u_3⟩ := u
  have hw_5 : (u_1, u_2, u_3) = (f_X2_enter cu lf fc (5 : Int32) tk) := hw_5
  have hP : va_P D vwCl [(q0, .inr (2, [.ref q1, .int u_2, .int u_3])), (q1, .inl (cI, 16, .inl u_1))] H := hP
  have hD : va_D A [(q0, .inr (2, [.ref q1, .int u_2, .int u_3])), (q1, .inl (cI, 16, .inl u_1))] := hD
  refine lv_aload_n hx hb dX2_forceLand_6 rfl (lv_at hl 0 rfl) ?_
  refine lv_iconst (v := 1) hx hb dX2_forceLand_7 (by decide) ?_
  refine va_put (D := D) (ci := 2) (v := .int (1 : Int32)) (ty := .boolean) (C := RX2) (T := TX2) (N := 3) hx hb hts hiX2 tyX2 tyX2_ok nmX2 hown hK.1 hP hD hS 0 rfl rfl 2 (by decide) (hts (.fieldLink RX2 19 "FencePilot$ModeLog" "landForced" "Z") (by decide +kernel)) (fun _ h9 => h9) rfl (by decide +kernel) rfl rfl (Nat.le_of_ble_eq_true rfl) dX2_forceLand_8 (fun H locs hP hD hS => ?_)
  have hP : va_P D vwCl [(q0, .inr (2, [.ref q1, .int u_2, .int (1 : Int32)])), (q1, .inl (cI, 16, .inl u_1))] H := hP
  have hD : va_D A [(q0, .inr (2, [.ref q1, .int u_2, .int (1 : Int32)])), (q1, .inl (cI, 16, .inl u_1))] := hD
  exact kk_rv (u_1, u_2, (1 : Int32)) hx hb hr hlk dX2_forceLand_11 hS (hP.sub [0, 1] rfl) (hD.sub [0, 1] (by decide) rfl) (by show (u_1, u_2, (1 : Int32)) = f_X2_forceLand cu lf fc tk; unfold f_X2_forceLand; rw [← hw_5]; try dsimp only; try rfl)
def f_X3_take (fr : Nat → Int32) (ff : Nat → Int32) (k : Int32) (x : Int32) (y : Int32) (z : Int32) : (Nat → Int32) × (Nat → Int32) := ((upd (upd (upd fr ((k * (3 : Int32)) + (0 : Int32)).toNatClampNeg x) ((k * (3 : Int32)) + (1 : Int32)).toNatClampNeg y) ((k * (3 : Int32)) + (2 : Int32)).toNatClampNeg z), (upd ff k.toNatClampNeg (vp_nar .boolean (1 : Int32))))
set_option maxHeartbeats 4000000 in
set_option maxRecDepth 100000 in
theorem k_X3_take (l : Launch) (D : va_G) (cI cZ : ClassId) (q0 : Nat) (q1 : Nat) (q2 : Nat) (sz : Nat) (fr : Nat → Int32) (ff : Nat → Int32) (k : Int32) (x : Int32) (y : Int32) (z : Int32) (hk : kk_L k 2) : kk_Mv l D cI cZ yX3_take wsX3_take ({ frames := 0, cells := 0, slots := 0, locals := 0 } : Room) [.ref q0, .int k, .int x, .int y, .int z] sz [(q0, .inr (3, [.ref q1, .ref q2])), (q1, .inl (cI, 9, .inl fr)), (q2, .inl (cZ, 3, .inl ff))] (fun (u : (Nat → Int32) × (Nat → Int32)) => u = f_X3_take fr ff k x y z) (fun u => [(q0, .inr (3, [.ref q1, .ref q2])), (q1, .inl (cI, 9, .inl u.1)), (q2, .inl (cZ, 3, .inl u.2))]) 0 0 := by
  refine kk_entv (cc := cX3_take) (maxL := 5) (ret := none) (by decide +kernel) rfl (Nat.le_of_ble_eq_true rfl) (fun p e s m args below meth c A ls hX hP hD hS hl => ?_)
  obtain ⟨hx, hb, hml, hown, hts, hr, hlk, hnm, hK, hA⟩ := hX
  have hown : s.vm.findClass RX3 = some m.cls := hown
  have hiX3 : ∀ w ∈ wsX30, w ∈ wsX3_take := by decide +kernel
  have hl : lv_has ls 5 [(0, .ref q0), (1, .int k), (2, .int x), (3, .int y), (4, .int z)] := hl
  refine lv_aload_n hx hb dX3_take_0 rfl (lv_at hl 0 rfl) ?_
  refine va_get (D := D) hx hb hts hiX3 hown hK.1 hP 0 rfl rfl 0 (by decide) (hts (.fieldLink RX3 9 "FencePilot$Sensors" "row" "[I") (by decide +kernel)) (fun _ h9 => h9) rfl dX3_take_1 ?_
  refine lv_iload_n hx hb dX3_take_4 rfl (lv_at hl 1 rfl) ?_
  refine lv_iconst (v := 3) hx hb dX3_take_5 (by decide) ?_
  refine lv_imul hx hb dX3_take_6 ?_
  refine lv_iconst (v := 0) hx hb dX3_take_7 (by decide) ?_
  refine lv_iadd hx hb dX3_take_8 ?_
  refine lv_iload_n hx hb dX3_take_9 rfl (lv_at hl 2 rfl) ?_
  refine va_iast hx hb hK.1 hP hD hS 1 0 rfl rfl (kk_Lix' (kk_L3 hk (by decide) (j := 0) rfl (by decide) (by decide)) (by decide)) dX3_take_10 (fun H locs hP hD hS => ?_)
  have hP : va_P D vwCl [(q0, .inr (3, [.ref q1, .ref q2])), (q1, .inl (cI, 9, .inl (upd fr ((k * (3 : Int32)) + (0 : Int32)).toNatClampNeg x))), (q2, .inl (cZ, 3, .inl ff))] H := hP
  have hD : va_D A [(q0, .inr (3, [.ref q1, .ref q2])), (q1, .inl (cI, 9, .inl (upd fr ((k * (3 : Int32)) + (0 : Int32)).toNatClampNeg x))), (q2, .inl (cZ, 3, .inl ff))] := hD
  refine lv_aload_n hx hb dX3_take_11 rfl (lv_at hl 0 rfl) ?_
  refine va_get (D := D) hx hb hts hiX3 hown hK.1 hP 0 rfl rfl 0 (by decide) (hts (.fieldLink RX3 9 "FencePilot$Sensors" "row" "[I") (by decide +kernel)) (fun _ h9 => h9) rfl dX3_take_12 ?_
  refine lv_iload_n hx hb dX3_take_15 rfl (lv_at hl 1 rfl) ?_
  refine lv_iconst (v := 3) hx hb dX3_take_16 (by decide) ?_
  refine lv_imul hx hb dX3_take_17 ?_
  refine lv_iconst (v := 1) hx hb dX3_take_18 (by decide) ?_
  refine lv_iadd hx hb dX3_take_19 ?_
  refine lv_iload_n hx hb dX3_take_20 rfl (lv_at hl 3 rfl) ?_
  refine va_iast hx hb hK.1 hP hD hS 1 0 rfl rfl (kk_Lix' (kk_L3 hk (by decide) (j := 1) rfl (by decide) (by decide)) (by decide)) dX3_take_21 (fun H locs hP hD hS => ?_)
  have hP : va_P D vwCl [(q0, .inr (3, [.ref q1, .ref q2])), (q1, .inl (cI, 9, .inl (upd (upd fr ((k * (3 : Int32)) + (0 : Int32)).toNatClampNeg x) ((k * (3 : Int32)) + (1 : Int32)).toNatClampNeg y))), (q2, .inl (cZ, 3, .inl ff))] H := hP
  have hD : va_D A [(q0, .inr (3, [.ref q1, .ref q2])), (q1, .inl (cI, 9, .inl (upd (upd fr ((k * (3 : Int32)) + (0 : Int32)).toNatClampNeg x) ((k * (3 : Int32)) + (1 : Int32)).toNatClampNeg y))), (q2, .inl (cZ, 3, .inl ff))] := hD
  refine lv_aload_n hx hb dX3_take_22 rfl (lv_at hl 0 rfl) ?_
  refine va_get (D := D) hx hb hts hiX3 hown hK.1 hP 0 rfl rfl 0 (by decide) (hts (.fieldLink RX3 9 "FencePilot$Sensors" "row" "[I") (by decide +kernel)) (fun _ h9 => h9) rfl dX3_take_23 ?_
  refine lv_iload_n hx hb dX3_take_26 rfl (lv_at hl 1 rfl) ?_
  refine lv_iconst (v := 3) hx hb dX3_take_27 (by decide) ?_
  refine lv_imul hx hb dX3_take_28 ?_
  refine lv_iconst (v := 2) hx hb dX3_take_29 (by decide) ?_
  refine lv_iadd hx hb dX3_take_30 ?_
  refine lv_iload hx hb dX3_take_31 (lv_at hl 4 rfl) ?_
  refine va_iast hx hb hK.1 hP hD hS 1 0 rfl rfl (kk_Lix' (kk_L3 hk (by decide) (j := 2) rfl (by decide) (by decide)) (by decide)) dX3_take_33 (fun H locs hP hD hS => ?_)
  have hP : va_P D vwCl [(q0, .inr (3, [.ref q1, .ref q2])), (q1, .inl (cI, 9, .inl (upd (upd (upd fr ((k * (3 : Int32)) + (0 : Int32)).toNatClampNeg x) ((k * (3 : Int32)) + (1 : Int32)).toNatClampNeg y) ((k * (3 : Int32)) + (2 : Int32)).toNatClampNeg z))), (q2, .inl (cZ, 3, .inl ff))] H := hP
  have hD : va_D A [(q0, .inr (3, [.ref q1, .ref q2])), (q1, .inl (cI, 9, .inl (upd (upd (upd fr ((k * (3 : Int32)) + (0 : Int32)).toNatClampNeg x) ((k * (3 : Int32)) + (1 : Int32)).toNatClampNeg y) ((k * (3 : Int32)) + (2 : Int32)).toNatClampNeg z))), (q2, .inl (cZ, 3, .inl ff))] := hD
  refine lv_aload_n hx hb dX3_take_34 rfl (lv_at hl 0 rfl) ?_
  refine va_get (D := D) hx hb hts hiX3 hown hK.1 hP 0 rfl rfl 1 (by decide) (hts (.fieldLink RX3 15 "FencePilot$Sensors" "fresh" "[Z") (by decide +kernel)) (fun _ h9 => h9) rfl dX3_take_35 ?_
  refine lv_iload_n hx hb dX3_take_38 rfl (lv_at hl 1 rfl) ?_
  refine lv_iconst (v := 1) hx hb dX3_take_39 (by decide) ?_
  refine va_zast hx hb hK.1 hP hD hS 2 1 rfl rfl (kk_Lix' hk (by decide)) dX3_take_40 (fun H locs hP hD hS => ?_)
  have hP : va_P D vwCl [(q0, .inr (3, [.ref q1, .ref q2])), (q1, .inl (cI, 9, .inl (upd (upd (upd fr ((k * (3 : Int32)) + (0 : Int32)).toNatClampNeg x) ((k * (3 : Int32)) + (1 : Int32)).toNatClampNeg y) ((k * (3 : Int32)) + (2 : Int32)).toNatClampNeg z))), (q2, .inl (cZ, 3, .inl (upd ff k.toNatClampNeg (vp_nar .boolean (1 : Int32)))))] H := hP
  have hD : va_D A [(q0, .inr (3, [.ref q1, .ref q2])), (q1, .inl (cI, 9, .inl (upd (upd (upd fr ((k * (3 : Int32)) + (0 : Int32)).toNatClampNeg x) ((k * (3 : Int32)) + (1 : Int32)).toNatClampNeg y) ((k * (3 : Int32)) + (2 : Int32)).toNatClampNeg z))), (q2, .inl (cZ, 3, .inl (upd ff k.toNatClampNeg (vp_nar .boolean (1 : Int32)))))] := hD
  exact kk_rv ((upd (upd (upd fr ((k * (3 : Int32)) + (0 : Int32)).toNatClampNeg x) ((k * (3 : Int32)) + (1 : Int32)).toNatClampNeg y) ((k * (3 : Int32)) + (2 : Int32)).toNatClampNeg z), (upd ff k.toNatClampNeg (vp_nar .boolean (1 : Int32)))) hx hb hr hlk dX3_take_41 hS (hP.sub [0, 1, 2] rfl) (hD.sub [0, 1, 2] (by decide) rfl) (by show ((upd (upd (upd fr ((k * (3 : Int32)) + (0 : Int32)).toNatClampNeg x) ((k * (3 : Int32)) + (1 : Int32)).toNatClampNeg y) ((k * (3 : Int32)) + (2 : Int32)).toNatClampNeg z), (upd ff k.toNatClampNeg (vp_nar .boolean (1 : Int32)))) = f_X3_take fr ff k x y z; unfold f_X3_take; rfl)
def f_X3_countFresh (ff : Nat → Int32) : Int32 := (if (ff (0 : Int32).toNatClampNeg) = (0 : Int32) then (if (ff (1 : Int32).toNatClampNeg) = (0 : Int32) then (if (ff (2 : Int32).toNatClampNeg) = (0 : Int32) then (0 : Int32) else (1 : Int32)) else (if (ff (2 : Int32).toNatClampNeg) = (0 : Int32) then (1 : Int32) else (2 : Int32))) else (if (ff (1 : Int32).toNatClampNeg) = (0 : Int32) then (if (ff (2 : Int32).toNatClampNeg) = (0 : Int32) then (1 : Int32) else (2 : Int32)) else (if (ff (2 : Int32).toNatClampNeg) = (0 : Int32) then (2 : Int32) else (3 : Int32))))
set_option maxHeartbeats 4000000 in
set_option maxRecDepth 100000 in
theorem k_X3_countFresh (l : Launch) (D : va_G) (cI cZ : ClassId) (q0 : Nat) (q1 : Nat) (q2 : Nat) (sz : Nat) (ff : Nat → Int32)   : kk_Mi l D cI cZ yX3_countFresh wsX3_countFresh ({ frames := 0, cells := 0, slots := 0, locals := 0 } : Room) [.ref q0] sz [(q0, .inr (3, [.ref q1, .ref q2])), (q2, .inl (cZ, 3, .inl ff))] (fun (r : Int32) (_ : Unit) => r = f_X3_countFresh ff) (fun _ => [(q0, .inr (3, [.ref q1, .ref q2])), (q2, .inl (cZ, 3, .inl ff))]) 0 0 := by
  refine kk_enti (cc := cX3_countFresh) (maxL := 3) (ret := (some .int)) (by decide +kernel) rfl (Nat.le_of_ble_eq_true rfl) (fun p e s m args below meth c A ls hX hP hD hS hl => ?_)
  obtain ⟨hx, hb, hml, hown, hts, hr, hlk, hnm, hK, hA⟩ := hX
  have hown : s.vm.findClass RX3 = some m.cls := hown
  have hiX3 : ∀ w ∈ wsX30, w ∈ wsX3_countFresh := by decide +kernel
  have hl : lv_has ls 3 [(0, .ref q0)] := hl
  refine lv_iconst (v := 0) hx hb dX3_countFresh_0 (by decide) ?_
  refine lv_istore_n (lv' := [(1, .int (0 : Int32)), (0, .ref q0)]) hx hb dX3_countFresh_1 rfl hl (by decide) rfl (fun ls hl => ?_)
  refine lv_iconst (v := 0) hx hb dX3_countFresh_2 (by decide) ?_
  refine lv_istore_n (lv' := [(2, .int (0 : Int32)), (1, .int (0 : Int32)), (0, .ref q0)]) hx hb dX3_countFresh_3 rfl hl (by decide) rfl (fun ls hl => ?_)
  refine lv_iload_n hx hb dX3_countFresh_4 rfl (lv_at hl 0 rfl) ?_
  refine lv_iconst (v := 3) hx hb dX3_countFresh_5 (by decide) ?_
  refine lv_icmp_ge (tgt := 27) hx hb dX3_countFresh_6 (by decide) (fun z => absurd z (by decide)) (fun _ => ?_)
  refine lv_aload_n hx hb dX3_countFresh_9 rfl (lv_at hl 2 rfl) ?_
  refine va_get (D := D) hx hb hts hiX3 hown hK.1 hP 0 rfl rfl 1 (by decide) (hts (.fieldLink RX3 15 "FencePilot$Sensors" "fresh" "[Z") (by decide +kernel)) (fun _ h9 => h9) rfl dX3_countFresh_10 ?_
  refine lv_iload_n hx hb dX3_countFresh_13 rfl (lv_at hl 0 rfl) ?_
  refine va_zald hx hb hK.1 hP 1 1 rfl rfl (by unfold vp_in; decide) dX3_countFresh_14 ?_
  refine lv_if_eq (tgt := 21) hx hb dX3_countFresh_15 (by decide) (fun c_1 => ?_) (fun c_1 => ?_)
  · refine lv_iinc (v := (1 : Int32)) (lv' := [(2, .int (1 : Int32)), (1, .int (0 : Int32)), (0, .ref q0)]) hx hb dX3_countFresh_21 hl (k := 0) rfl (by first | rfl | decide) (by decide) rfl (fun ls hl => ?_)
    refine lv_goto (tgt := 4) hx hb dX3_countFresh_24 (by decide) ?_
    refine lv_iload_n hx hb dX3_countFresh_4 rfl (lv_at hl 0 rfl) ?_
    refine lv_iconst (v := 3) hx hb dX3_countFresh_5 (by decide) ?_
    refine lv_icmp_ge (tgt := 27) hx hb dX3_countFresh_6 (by decide) (fun z => absurd z (by decide)) (fun _ => ?_)
    refine lv_aload_n hx hb dX3_countFresh_9 rfl (lv_at hl 2 rfl) ?_
    refine va_get (D := D) hx hb hts hiX3 hown hK.1 hP 0 rfl rfl 1 (by decide) (hts (.fieldLink RX3 15 "FencePilot$Sensors" "fresh" "[Z") (by decide +kernel)) (fun _ h9 => h9) rfl dX3_countFresh_10 ?_
    refine lv_iload_n hx hb dX3_countFresh_13 rfl (lv_at hl 0 rfl) ?_
    refine va_zald hx hb hK.1 hP 1 1 rfl rfl (by unfold vp_in; decide) dX3_countFresh_14 ?_
    refine lv_if_eq (tgt := 21) hx hb dX3_countFresh_15 (by decide) (fun c_2 => ?_) (fun c_2 => ?_)
    · refine lv_iinc (v := (2 : Int32)) (lv' := [(2, .int (2 : Int32)), (1, .int (0 : Int32)), (0, .ref q0)]) hx hb dX3_countFresh_21 hl (k := 0) rfl (by first | rfl | decide) (by decide) rfl (fun ls hl => ?_)
      refine lv_goto (tgt := 4) hx hb dX3_countFresh_24 (by decide) ?_
      refine lv_iload_n hx hb dX3_countFresh_4 rfl (lv_at hl 0 rfl) ?_
      refine lv_iconst (v := 3) hx hb dX3_countFresh_5 (by decide) ?_
      refine lv_icmp_ge (tgt := 27) hx hb dX3_countFresh_6 (by decide) (fun z => absurd z (by decide)) (fun _ => ?_)
      refine lv_aload_n hx hb dX3_countFresh_9 rfl (lv_at hl 2 rfl) ?_
      refine va_get (D := D) hx hb hts hiX3 hown hK.1 hP 0 rfl rfl 1 (by decide) (hts (.fieldLink RX3 15 "FencePilot$Sensors" "fresh" "[Z") (by decide +kernel)) (fun _ h9 => h9) rfl dX3_countFresh_10 ?_
      refine lv_iload_n hx hb dX3_countFresh_13 rfl (lv_at hl 0 rfl) ?_
      refine va_zald hx hb hK.1 hP 1 1 rfl rfl (by unfold vp_in; decide) dX3_countFresh_14 ?_
      refine lv_if_eq (tgt := 21) hx hb dX3_countFresh_15 (by decide) (fun c_3 => ?_) (fun c_3 => ?_)
      · refine lv_iinc (v := (3 : Int32)) (lv' := [(2, .int (3 : Int32)), (1, .int (0 : Int32)), (0, .ref q0)]) hx hb dX3_countFresh_21 hl (k := 0) rfl (by first | rfl | decide) (by decide) rfl (fun ls hl => ?_)
        refine lv_goto (tgt := 4) hx hb dX3_countFresh_24 (by decide) ?_
        refine lv_iload_n hx hb dX3_countFresh_4 rfl (lv_at hl 0 rfl) ?_
        refine lv_iconst (v := 3) hx hb dX3_countFresh_5 (by decide) ?_
        refine lv_icmp_ge (tgt := 27) hx hb dX3_countFresh_6 (by decide) (fun _ => ?_) (fun z => absurd (by decide) z)
        refine lv_iload_n hx hb dX3_countFresh_27 rfl (lv_at hl 1 rfl) ?_
        exact kk_ri () hx hb hr hlk dX3_countFresh_28 hS (hP.sub [0, 1] rfl) (hD.sub [0, 1] (by decide) rfl) (by show (0 : Int32) = f_X3_countFresh ff; unfold f_X3_countFresh; rw [if_pos c_1]; rw [if_pos c_2]; rw [if_pos c_3]; try rfl)
      · refine lv_iinc (v := (1 : Int32)) (lv' := [(1, .int (1 : Int32)), (2, .int (2 : Int32)), (0, .ref q0)]) hx hb dX3_countFresh_18 hl (k := 1) rfl (by first | rfl | decide) (by decide) rfl (fun ls hl => ?_)
        refine lv_iinc (v := (3 : Int32)) (lv' := [(2, .int (3 : Int32)), (1, .int (1 : Int32)), (0, .ref q0)]) hx hb dX3_countFresh_21 hl (k := 1) rfl (by first | rfl | decide) (by decide) rfl (fun ls hl => ?_)
        refine lv_goto (tgt := 4) hx hb dX3_countFresh_24 (by decide) ?_
        refine lv_iload_n hx hb dX3_countFresh_4 rfl (lv_at hl 0 rfl) ?_
        refine lv_iconst (v := 3) hx hb dX3_countFresh_5 (by decide) ?_
        refine lv_icmp_ge (tgt := 27) hx hb dX3_countFresh_6 (by decide) (fun _ => ?_) (fun z => absurd (by decide) z)
        refine lv_iload_n hx hb dX3_countFresh_27 rfl (lv_at hl 1 rfl) ?_
        exact kk_ri () hx hb hr hlk dX3_countFresh_28 hS (hP.sub [0, 1] rfl) (hD.sub [0, 1] (by decide) rfl) (by show (1 : Int32) = f_X3_countFresh ff; unfold f_X3_countFresh; rw [if_pos c_1]; rw [if_pos c_2]; rw [if_neg c_3]; try rfl)
    · refine lv_iinc (v := (1 : Int32)) (lv' := [(1, .int (1 : Int32)), (2, .int (1 : Int32)), (0, .ref q0)]) hx hb dX3_countFresh_18 hl (k := 1) rfl (by first | rfl | decide) (by decide) rfl (fun ls hl => ?_)
      refine lv_iinc (v := (2 : Int32)) (lv' := [(2, .int (2 : Int32)), (1, .int (1 : Int32)), (0, .ref q0)]) hx hb dX3_countFresh_21 hl (k := 1) rfl (by first | rfl | decide) (by decide) rfl (fun ls hl => ?_)
      refine lv_goto (tgt := 4) hx hb dX3_countFresh_24 (by decide) ?_
      refine lv_iload_n hx hb dX3_countFresh_4 rfl (lv_at hl 0 rfl) ?_
      refine lv_iconst (v := 3) hx hb dX3_countFresh_5 (by decide) ?_
      refine lv_icmp_ge (tgt := 27) hx hb dX3_countFresh_6 (by decide) (fun z => absurd z (by decide)) (fun _ => ?_)
      refine lv_aload_n hx hb dX3_countFresh_9 rfl (lv_at hl 2 rfl) ?_
      refine va_get (D := D) hx hb hts hiX3 hown hK.1 hP 0 rfl rfl 1 (by decide) (hts (.fieldLink RX3 15 "FencePilot$Sensors" "fresh" "[Z") (by decide +kernel)) (fun _ h9 => h9) rfl dX3_countFresh_10 ?_
      refine lv_iload_n hx hb dX3_countFresh_13 rfl (lv_at hl 0 rfl) ?_
      refine va_zald hx hb hK.1 hP 1 1 rfl rfl (by unfold vp_in; decide) dX3_countFresh_14 ?_
      refine lv_if_eq (tgt := 21) hx hb dX3_countFresh_15 (by decide) (fun c_4 => ?_) (fun c_4 => ?_)
      · refine lv_iinc (v := (3 : Int32)) (lv' := [(2, .int (3 : Int32)), (1, .int (1 : Int32)), (0, .ref q0)]) hx hb dX3_countFresh_21 hl (k := 0) rfl (by first | rfl | decide) (by decide) rfl (fun ls hl => ?_)
        refine lv_goto (tgt := 4) hx hb dX3_countFresh_24 (by decide) ?_
        refine lv_iload_n hx hb dX3_countFresh_4 rfl (lv_at hl 0 rfl) ?_
        refine lv_iconst (v := 3) hx hb dX3_countFresh_5 (by decide) ?_
        refine lv_icmp_ge (tgt := 27) hx hb dX3_countFresh_6 (by decide) (fun _ => ?_) (fun z => absurd (by decide) z)
        refine lv_iload_n hx hb dX3_countFresh_27 rfl (lv_at hl 1 rfl) ?_
        exact kk_ri () hx hb hr hlk dX3_countFresh_28 hS (hP.sub [0, 1] rfl) (hD.sub [0, 1] (by decide) rfl) (by show (1 : Int32) = f_X3_countFresh ff; unfold f_X3_countFresh; rw [if_pos c_1]; rw [if_neg c_2]; rw [if_pos c_4]; try rfl)
      · refine lv_iinc (v := (2 : Int32)) (lv' := [(1, .int (2 : Int32)), (2, .int (2 : Int32)), (0, .ref q0)]) hx hb dX3_countFresh_18 hl (k := 1) rfl (by first | rfl | decide) (by decide) rfl (fun ls hl => ?_)
        refine lv_iinc (v := (3 : Int32)) (lv' := [(2, .int (3 : Int32)), (1, .int (2 : Int32)), (0, .ref q0)]) hx hb dX3_countFresh_21 hl (k := 1) rfl (by first | rfl | decide) (by decide) rfl (fun ls hl => ?_)
        refine lv_goto (tgt := 4) hx hb dX3_countFresh_24 (by decide) ?_
        refine lv_iload_n hx hb dX3_countFresh_4 rfl (lv_at hl 0 rfl) ?_
        refine lv_iconst (v := 3) hx hb dX3_countFresh_5 (by decide) ?_
        refine lv_icmp_ge (tgt := 27) hx hb dX3_countFresh_6 (by decide) (fun _ => ?_) (fun z => absurd (by decide) z)
        refine lv_iload_n hx hb dX3_countFresh_27 rfl (lv_at hl 1 rfl) ?_
        exact kk_ri () hx hb hr hlk dX3_countFresh_28 hS (hP.sub [0, 1] rfl) (hD.sub [0, 1] (by decide) rfl) (by show (2 : Int32) = f_X3_countFresh ff; unfold f_X3_countFresh; rw [if_pos c_1]; rw [if_neg c_2]; rw [if_neg c_4]; try rfl)
  · refine lv_iinc (v := (1 : Int32)) (lv' := [(1, .int (1 : Int32)), (2, .int (0 : Int32)), (0, .ref q0)]) hx hb dX3_countFresh_18 hl (k := 1) rfl (by first | rfl | decide) (by decide) rfl (fun ls hl => ?_)
    refine lv_iinc (v := (1 : Int32)) (lv' := [(2, .int (1 : Int32)), (1, .int (1 : Int32)), (0, .ref q0)]) hx hb dX3_countFresh_21 hl (k := 1) rfl (by first | rfl | decide) (by decide) rfl (fun ls hl => ?_)
    refine lv_goto (tgt := 4) hx hb dX3_countFresh_24 (by decide) ?_
    refine lv_iload_n hx hb dX3_countFresh_4 rfl (lv_at hl 0 rfl) ?_
    refine lv_iconst (v := 3) hx hb dX3_countFresh_5 (by decide) ?_
    refine lv_icmp_ge (tgt := 27) hx hb dX3_countFresh_6 (by decide) (fun z => absurd z (by decide)) (fun _ => ?_)
    refine lv_aload_n hx hb dX3_countFresh_9 rfl (lv_at hl 2 rfl) ?_
    refine va_get (D := D) hx hb hts hiX3 hown hK.1 hP 0 rfl rfl 1 (by decide) (hts (.fieldLink RX3 15 "FencePilot$Sensors" "fresh" "[Z") (by decide +kernel)) (fun _ h9 => h9) rfl dX3_countFresh_10 ?_
    refine lv_iload_n hx hb dX3_countFresh_13 rfl (lv_at hl 0 rfl) ?_
    refine va_zald hx hb hK.1 hP 1 1 rfl rfl (by unfold vp_in; decide) dX3_countFresh_14 ?_
    refine lv_if_eq (tgt := 21) hx hb dX3_countFresh_15 (by decide) (fun c_5 => ?_) (fun c_5 => ?_)
    · refine lv_iinc (v := (2 : Int32)) (lv' := [(2, .int (2 : Int32)), (1, .int (1 : Int32)), (0, .ref q0)]) hx hb dX3_countFresh_21 hl (k := 0) rfl (by first | rfl | decide) (by decide) rfl (fun ls hl => ?_)
      refine lv_goto (tgt := 4) hx hb dX3_countFresh_24 (by decide) ?_
      refine lv_iload_n hx hb dX3_countFresh_4 rfl (lv_at hl 0 rfl) ?_
      refine lv_iconst (v := 3) hx hb dX3_countFresh_5 (by decide) ?_
      refine lv_icmp_ge (tgt := 27) hx hb dX3_countFresh_6 (by decide) (fun z => absurd z (by decide)) (fun _ => ?_)
      refine lv_aload_n hx hb dX3_countFresh_9 rfl (lv_at hl 2 rfl) ?_
      refine va_get (D := D) hx hb hts hiX3 hown hK.1 hP 0 rfl rfl 1 (by decide) (hts (.fieldLink RX3 15 "FencePilot$Sensors" "fresh" "[Z") (by decide +kernel)) (fun _ h9 => h9) rfl dX3_countFresh_10 ?_
      refine lv_iload_n hx hb dX3_countFresh_13 rfl (lv_at hl 0 rfl) ?_
      refine va_zald hx hb hK.1 hP 1 1 rfl rfl (by unfold vp_in; decide) dX3_countFresh_14 ?_
      refine lv_if_eq (tgt := 21) hx hb dX3_countFresh_15 (by decide) (fun c_6 => ?_) (fun c_6 => ?_)
      · refine lv_iinc (v := (3 : Int32)) (lv' := [(2, .int (3 : Int32)), (1, .int (1 : Int32)), (0, .ref q0)]) hx hb dX3_countFresh_21 hl (k := 0) rfl (by first | rfl | decide) (by decide) rfl (fun ls hl => ?_)
        refine lv_goto (tgt := 4) hx hb dX3_countFresh_24 (by decide) ?_
        refine lv_iload_n hx hb dX3_countFresh_4 rfl (lv_at hl 0 rfl) ?_
        refine lv_iconst (v := 3) hx hb dX3_countFresh_5 (by decide) ?_
        refine lv_icmp_ge (tgt := 27) hx hb dX3_countFresh_6 (by decide) (fun _ => ?_) (fun z => absurd (by decide) z)
        refine lv_iload_n hx hb dX3_countFresh_27 rfl (lv_at hl 1 rfl) ?_
        exact kk_ri () hx hb hr hlk dX3_countFresh_28 hS (hP.sub [0, 1] rfl) (hD.sub [0, 1] (by decide) rfl) (by show (1 : Int32) = f_X3_countFresh ff; unfold f_X3_countFresh; rw [if_neg c_1]; rw [if_pos c_5]; rw [if_pos c_6]; try rfl)
      · refine lv_iinc (v := (2 : Int32)) (lv' := [(1, .int (2 : Int32)), (2, .int (2 : Int32)), (0, .ref q0)]) hx hb dX3_countFresh_18 hl (k := 1) rfl (by first | rfl | decide) (by decide) rfl (fun ls hl => ?_)
        refine lv_iinc (v := (3 : Int32)) (lv' := [(2, .int (3 : Int32)), (1, .int (2 : Int32)), (0, .ref q0)]) hx hb dX3_countFresh_21 hl (k := 1) rfl (by first | rfl | decide) (by decide) rfl (fun ls hl => ?_)
        refine lv_goto (tgt := 4) hx hb dX3_countFresh_24 (by decide) ?_
        refine lv_iload_n hx hb dX3_countFresh_4 rfl (lv_at hl 0 rfl) ?_
        refine lv_iconst (v := 3) hx hb dX3_countFresh_5 (by decide) ?_
        refine lv_icmp_ge (tgt := 27) hx hb dX3_countFresh_6 (by decide) (fun _ => ?_) (fun z => absurd (by decide) z)
        refine lv_iload_n hx hb dX3_countFresh_27 rfl (lv_at hl 1 rfl) ?_
        exact kk_ri () hx hb hr hlk dX3_countFresh_28 hS (hP.sub [0, 1] rfl) (hD.sub [0, 1] (by decide) rfl) (by show (2 : Int32) = f_X3_countFresh ff; unfold f_X3_countFresh; rw [if_neg c_1]; rw [if_pos c_5]; rw [if_neg c_6]; try rfl)
    · refine lv_iinc (v := (2 : Int32)) (lv' := [(1, .int (2 : Int32)), (2, .int (1 : Int32)), (0, .ref q0)]) hx hb dX3_countFresh_18 hl (k := 1) rfl (by first | rfl | decide) (by decide) rfl (fun ls hl => ?_)
      refine lv_iinc (v := (2 : Int32)) (lv' := [(2, .int (2 : Int32)), (1, .int (2 : Int32)), (0, .ref q0)]) hx hb dX3_countFresh_21 hl (k := 1) rfl (by first | rfl | decide) (by decide) rfl (fun ls hl => ?_)
      refine lv_goto (tgt := 4) hx hb dX3_countFresh_24 (by decide) ?_
      refine lv_iload_n hx hb dX3_countFresh_4 rfl (lv_at hl 0 rfl) ?_
      refine lv_iconst (v := 3) hx hb dX3_countFresh_5 (by decide) ?_
      refine lv_icmp_ge (tgt := 27) hx hb dX3_countFresh_6 (by decide) (fun z => absurd z (by decide)) (fun _ => ?_)
      refine lv_aload_n hx hb dX3_countFresh_9 rfl (lv_at hl 2 rfl) ?_
      refine va_get (D := D) hx hb hts hiX3 hown hK.1 hP 0 rfl rfl 1 (by decide) (hts (.fieldLink RX3 15 "FencePilot$Sensors" "fresh" "[Z") (by decide +kernel)) (fun _ h9 => h9) rfl dX3_countFresh_10 ?_
      refine lv_iload_n hx hb dX3_countFresh_13 rfl (lv_at hl 0 rfl) ?_
      refine va_zald hx hb hK.1 hP 1 1 rfl rfl (by unfold vp_in; decide) dX3_countFresh_14 ?_
      refine lv_if_eq (tgt := 21) hx hb dX3_countFresh_15 (by decide) (fun c_7 => ?_) (fun c_7 => ?_)
      · refine lv_iinc (v := (3 : Int32)) (lv' := [(2, .int (3 : Int32)), (1, .int (2 : Int32)), (0, .ref q0)]) hx hb dX3_countFresh_21 hl (k := 0) rfl (by first | rfl | decide) (by decide) rfl (fun ls hl => ?_)
        refine lv_goto (tgt := 4) hx hb dX3_countFresh_24 (by decide) ?_
        refine lv_iload_n hx hb dX3_countFresh_4 rfl (lv_at hl 0 rfl) ?_
        refine lv_iconst (v := 3) hx hb dX3_countFresh_5 (by decide) ?_
        refine lv_icmp_ge (tgt := 27) hx hb dX3_countFresh_6 (by decide) (fun _ => ?_) (fun z => absurd (by decide) z)
        refine lv_iload_n hx hb dX3_countFresh_27 rfl (lv_at hl 1 rfl) ?_
        exact kk_ri () hx hb hr hlk dX3_countFresh_28 hS (hP.sub [0, 1] rfl) (hD.sub [0, 1] (by decide) rfl) (by show (2 : Int32) = f_X3_countFresh ff; unfold f_X3_countFresh; rw [if_neg c_1]; rw [if_neg c_5]; rw [if_pos c_7]; try rfl)
      · refine lv_iinc (v := (3 : Int32)) (lv' := [(1, .int (3 : Int32)), (2, .int (2 : Int32)), (0, .ref q0)]) hx hb dX3_countFresh_18 hl (k := 1) rfl (by first | rfl | decide) (by decide) rfl (fun ls hl => ?_)
        refine lv_iinc (v := (3 : Int32)) (lv' := [(2, .int (3 : Int32)), (1, .int (3 : Int32)), (0, .ref q0)]) hx hb dX3_countFresh_21 hl (k := 1) rfl (by first | rfl | decide) (by decide) rfl (fun ls hl => ?_)
        refine lv_goto (tgt := 4) hx hb dX3_countFresh_24 (by decide) ?_
        refine lv_iload_n hx hb dX3_countFresh_4 rfl (lv_at hl 0 rfl) ?_
        refine lv_iconst (v := 3) hx hb dX3_countFresh_5 (by decide) ?_
        refine lv_icmp_ge (tgt := 27) hx hb dX3_countFresh_6 (by decide) (fun _ => ?_) (fun z => absurd (by decide) z)
        refine lv_iload_n hx hb dX3_countFresh_27 rfl (lv_at hl 1 rfl) ?_
        exact kk_ri () hx hb hr hlk dX3_countFresh_28 hS (hP.sub [0, 1] rfl) (hD.sub [0, 1] (by decide) rfl) (by show (3 : Int32) = f_X3_countFresh ff; unfold f_X3_countFresh; rw [if_neg c_1]; rw [if_neg c_5]; rw [if_neg c_7]; try rfl)
def f_X3_forget (ff : Nat → Int32) : (Nat → Int32) := (upd (upd (upd ff (0 : Int32).toNatClampNeg (vp_nar .boolean (0 : Int32))) (1 : Int32).toNatClampNeg (vp_nar .boolean (0 : Int32))) (2 : Int32).toNatClampNeg (vp_nar .boolean (0 : Int32)))
set_option maxHeartbeats 4000000 in
set_option maxRecDepth 100000 in
theorem k_X3_forget (l : Launch) (D : va_G) (cI cZ : ClassId) (q0 : Nat) (q1 : Nat) (q2 : Nat) (sz : Nat) (ff : Nat → Int32)   : kk_Mv l D cI cZ yX3_forget wsX3_forget ({ frames := 0, cells := 0, slots := 0, locals := 0 } : Room) [.ref q0] sz [(q0, .inr (3, [.ref q1, .ref q2])), (q2, .inl (cZ, 3, .inl ff))] (fun (u : (Nat → Int32)) => u = f_X3_forget ff) (fun u => [(q0, .inr (3, [.ref q1, .ref q2])), (q2, .inl (cZ, 3, .inl u))]) 0 0 := by
  refine kk_entv (cc := cX3_forget) (maxL := 2) (ret := none) (by decide +kernel) rfl (Nat.le_of_ble_eq_true rfl) (fun p e s m args below meth c A ls hX hP hD hS hl => ?_)
  obtain ⟨hx, hb, hml, hown, hts, hr, hlk, hnm, hK, hA⟩ := hX
  have hown : s.vm.findClass RX3 = some m.cls := hown
  have hiX3 : ∀ w ∈ wsX30, w ∈ wsX3_forget := by decide +kernel
  have hl : lv_has ls 2 [(0, .ref q0)] := hl
  refine lv_iconst (v := 0) hx hb dX3_forget_0 (by decide) ?_
  refine lv_istore_n (lv' := [(1, .int (0 : Int32)), (0, .ref q0)]) hx hb dX3_forget_1 rfl hl (by decide) rfl (fun ls hl => ?_)
  refine lv_iload_n hx hb dX3_forget_2 rfl (lv_at hl 0 rfl) ?_
  refine lv_iconst (v := 3) hx hb dX3_forget_3 (by decide) ?_
  refine lv_icmp_ge (tgt := 20) hx hb dX3_forget_4 (by decide) (fun z => absurd z (by decide)) (fun _ => ?_)
  refine lv_aload_n hx hb dX3_forget_7 rfl (lv_at hl 1 rfl) ?_
  refine va_get (D := D) hx hb hts hiX3 hown hK.1 hP 0 rfl rfl 1 (by decide) (hts (.fieldLink RX3 15 "FencePilot$Sensors" "fresh" "[Z") (by decide +kernel)) (fun _ h9 => h9) rfl dX3_forget_8 ?_
  refine lv_iload_n hx hb dX3_forget_11 rfl (lv_at hl 0 rfl) ?_
  refine lv_iconst (v := 0) hx hb dX3_forget_12 (by decide) ?_
  refine va_zast hx hb hK.1 hP hD hS 1 1 rfl rfl (by unfold vp_in; decide) dX3_forget_13 (fun H locs hP hD hS => ?_)
  have hP : va_P D vwCl [(q0, .inr (3, [.ref q1, .ref q2])), (q2, .inl (cZ, 3, .inl (upd ff (0 : Int32).toNatClampNeg (vp_nar .boolean (0 : Int32)))))] H := hP
  have hD : va_D A [(q0, .inr (3, [.ref q1, .ref q2])), (q2, .inl (cZ, 3, .inl (upd ff (0 : Int32).toNatClampNeg (vp_nar .boolean (0 : Int32)))))] := hD
  refine lv_iinc (v := (1 : Int32)) (lv' := [(1, .int (1 : Int32)), (0, .ref q0)]) hx hb dX3_forget_14 hl (k := 0) rfl (by first | rfl | decide) (by decide) rfl (fun ls hl => ?_)
  refine lv_goto (tgt := 2) hx hb dX3_forget_17 (by decide) ?_
  refine lv_iload_n hx hb dX3_forget_2 rfl (lv_at hl 0 rfl) ?_
  refine lv_iconst (v := 3) hx hb dX3_forget_3 (by decide) ?_
  refine lv_icmp_ge (tgt := 20) hx hb dX3_forget_4 (by decide) (fun z => absurd z (by decide)) (fun _ => ?_)
  refine lv_aload_n hx hb dX3_forget_7 rfl (lv_at hl 1 rfl) ?_
  refine va_get (D := D) hx hb hts hiX3 hown hK.1 hP 0 rfl rfl 1 (by decide) (hts (.fieldLink RX3 15 "FencePilot$Sensors" "fresh" "[Z") (by decide +kernel)) (fun _ h9 => h9) rfl dX3_forget_8 ?_
  refine lv_iload_n hx hb dX3_forget_11 rfl (lv_at hl 0 rfl) ?_
  refine lv_iconst (v := 0) hx hb dX3_forget_12 (by decide) ?_
  refine va_zast hx hb hK.1 hP hD hS 1 1 rfl rfl (by unfold vp_in; decide) dX3_forget_13 (fun H locs hP hD hS => ?_)
  have hP : va_P D vwCl [(q0, .inr (3, [.ref q1, .ref q2])), (q2, .inl (cZ, 3, .inl (upd (upd ff (0 : Int32).toNatClampNeg (vp_nar .boolean (0 : Int32))) (1 : Int32).toNatClampNeg (vp_nar .boolean (0 : Int32)))))] H := hP
  have hD : va_D A [(q0, .inr (3, [.ref q1, .ref q2])), (q2, .inl (cZ, 3, .inl (upd (upd ff (0 : Int32).toNatClampNeg (vp_nar .boolean (0 : Int32))) (1 : Int32).toNatClampNeg (vp_nar .boolean (0 : Int32)))))] := hD
  refine lv_iinc (v := (2 : Int32)) (lv' := [(1, .int (2 : Int32)), (0, .ref q0)]) hx hb dX3_forget_14 hl (k := 0) rfl (by first | rfl | decide) (by decide) rfl (fun ls hl => ?_)
  refine lv_goto (tgt := 2) hx hb dX3_forget_17 (by decide) ?_
  refine lv_iload_n hx hb dX3_forget_2 rfl (lv_at hl 0 rfl) ?_
  refine lv_iconst (v := 3) hx hb dX3_forget_3 (by decide) ?_
  refine lv_icmp_ge (tgt := 20) hx hb dX3_forget_4 (by decide) (fun z => absurd z (by decide)) (fun _ => ?_)
  refine lv_aload_n hx hb dX3_forget_7 rfl (lv_at hl 1 rfl) ?_
  refine va_get (D := D) hx hb hts hiX3 hown hK.1 hP 0 rfl rfl 1 (by decide) (hts (.fieldLink RX3 15 "FencePilot$Sensors" "fresh" "[Z") (by decide +kernel)) (fun _ h9 => h9) rfl dX3_forget_8 ?_
  refine lv_iload_n hx hb dX3_forget_11 rfl (lv_at hl 0 rfl) ?_
  refine lv_iconst (v := 0) hx hb dX3_forget_12 (by decide) ?_
  refine va_zast hx hb hK.1 hP hD hS 1 1 rfl rfl (by unfold vp_in; decide) dX3_forget_13 (fun H locs hP hD hS => ?_)
  have hP : va_P D vwCl [(q0, .inr (3, [.ref q1, .ref q2])), (q2, .inl (cZ, 3, .inl (upd (upd (upd ff (0 : Int32).toNatClampNeg (vp_nar .boolean (0 : Int32))) (1 : Int32).toNatClampNeg (vp_nar .boolean (0 : Int32))) (2 : Int32).toNatClampNeg (vp_nar .boolean (0 : Int32)))))] H := hP
  have hD : va_D A [(q0, .inr (3, [.ref q1, .ref q2])), (q2, .inl (cZ, 3, .inl (upd (upd (upd ff (0 : Int32).toNatClampNeg (vp_nar .boolean (0 : Int32))) (1 : Int32).toNatClampNeg (vp_nar .boolean (0 : Int32))) (2 : Int32).toNatClampNeg (vp_nar .boolean (0 : Int32)))))] := hD
  refine lv_iinc (v := (3 : Int32)) (lv' := [(1, .int (3 : Int32)), (0, .ref q0)]) hx hb dX3_forget_14 hl (k := 0) rfl (by first | rfl | decide) (by decide) rfl (fun ls hl => ?_)
  refine lv_goto (tgt := 2) hx hb dX3_forget_17 (by decide) ?_
  refine lv_iload_n hx hb dX3_forget_2 rfl (lv_at hl 0 rfl) ?_
  refine lv_iconst (v := 3) hx hb dX3_forget_3 (by decide) ?_
  refine lv_icmp_ge (tgt := 20) hx hb dX3_forget_4 (by decide) (fun _ => ?_) (fun z => absurd (by decide) z)
  exact kk_rv (upd (upd (upd ff (0 : Int32).toNatClampNeg (vp_nar .boolean (0 : Int32))) (1 : Int32).toNatClampNeg (vp_nar .boolean (0 : Int32))) (2 : Int32).toNatClampNeg (vp_nar .boolean (0 : Int32))) hx hb hr hlk dX3_forget_20 hS (hP.sub [0, 1] rfl) (hD.sub [0, 1] (by decide) rfl) (by show (upd (upd (upd ff (0 : Int32).toNatClampNeg (vp_nar .boolean (0 : Int32))) (1 : Int32).toNatClampNeg (vp_nar .boolean (0 : Int32))) (2 : Int32).toNatClampNeg (vp_nar .boolean (0 : Int32))) = f_X3_forget ff; unfold f_X3_forget; rfl)
def f_X3_middle (a : Int32) (b : Int32) (c3 : Int32) : Int32 := (if (if b < a then b else a) < (if c3 < (if a < b then b else a) then c3 else (if a < b then b else a)) then (if c3 < (if a < b then b else a) then c3 else (if a < b then b else a)) else (if b < a then b else a))
set_option maxHeartbeats 4000000 in
set_option maxRecDepth 100000 in
theorem k_X3_middle (l : Launch) (D : va_G) (cI cZ : ClassId)  (sz : Nat)  (a : Int32) (b : Int32) (c3 : Int32)  : kk_Mi l D cI cZ yX3_middle wsX3_middle ({ frames := 1, cells := 0, slots := 0, locals := 14 } : Room) [.int a, .int b, .int c3] sz [] (fun (r : Int32) (_ : Unit) => r = f_X3_middle a b c3) (fun _ => []) 0 0 := by
  refine kk_enti (cc := cX3_middle) (maxL := 3) (ret := (some .int)) (by decide +kernel) rfl (Nat.le_of_ble_eq_true rfl) (fun p e s m args below meth c A ls hX hP hD hS hl => ?_)
  obtain ⟨hx, hb, hml, hown, hts, hr, hlk, hnm, hK, hA⟩ := hX
  have hown : s.vm.findClass RX3 = some m.cls := hown
  have hl : lv_has ls 3 [(0, .int a), (1, .int b), (2, .int c3)] := hl
  refine lv_iload_n hx hb dX3_middle_0 rfl (lv_at hl 0 rfl) ?_
  refine lv_iload_n hx hb dX3_middle_1 rfl (lv_at hl 1 rfl) ?_
  refine va_mmin hx hb (hml.trans hl.1.symm) hown (hts (.methodLink RX3 33 Lib.Math.min.name) (by decide +kernel)) (hts (.static Lib.Math.min.name) (by decide +kernel)) (hts (.initialized "java/lang/Math") (by decide +kernel)) (hts _ (List.mem_of_getElem? (i := 4) rfl)) (Nat.le_of_ble_eq_true rfl) (Nat.le_of_ble_eq_true rfl) (Nat.le_of_ble_eq_true rfl) (Nat.le_of_ble_eq_true rfl) dX3_middle_2 ?_
  refine lv_iload_n hx hb dX3_middle_5 rfl (lv_at hl 0 rfl) ?_
  refine lv_iload_n hx hb dX3_middle_6 rfl (lv_at hl 1 rfl) ?_
  refine va_mmax hx hb (hml.trans hl.1.symm) hown (hts (.methodLink RX3 36 Lib.Math.max.name) (by decide +kernel)) (hts (.static Lib.Math.max.name) (by decide +kernel)) (hts (.initialized "java/lang/Math") (by decide +kernel)) (hts _ (List.mem_of_getElem? (i := 7) rfl)) (Nat.le_of_ble_eq_true rfl) (Nat.le_of_ble_eq_true rfl) (Nat.le_of_ble_eq_true rfl) (Nat.le_of_ble_eq_true rfl) dX3_middle_7 ?_
  refine lv_iload_n hx hb dX3_middle_10 rfl (lv_at hl 2 rfl) ?_
  refine va_mmin hx hb (hml.trans hl.1.symm) hown (hts (.methodLink RX3 33 Lib.Math.min.name) (by decide +kernel)) (hts (.static Lib.Math.min.name) (by decide +kernel)) (hts (.initialized "java/lang/Math") (by decide +kernel)) (hts _ (List.mem_of_getElem? (i := 4) rfl)) (Nat.le_of_ble_eq_true rfl) (Nat.le_of_ble_eq_true rfl) (Nat.le_of_ble_eq_true rfl) (Nat.le_of_ble_eq_true rfl) dX3_middle_11 ?_
  refine va_mmax hx hb (hml.trans hl.1.symm) hown (hts (.methodLink RX3 36 Lib.Math.max.name) (by decide +kernel)) (hts (.static Lib.Math.max.name) (by decide +kernel)) (hts (.initialized "java/lang/Math") (by decide +kernel)) (hts _ (List.mem_of_getElem? (i := 7) rfl)) (Nat.le_of_ble_eq_true rfl) (Nat.le_of_ble_eq_true rfl) (Nat.le_of_ble_eq_true rfl) (Nat.le_of_ble_eq_true rfl) dX3_middle_14 ?_
  exact kk_ri () hx hb hr hlk dX3_middle_17 hS (hP.sub [] rfl) (hD.sub [] (by decide) rfl) (by show (if (if b < a then b else a) < (if c3 < (if a < b then b else a) then c3 else (if a < b then b else a)) then (if c3 < (if a < b then b else a) then c3 else (if a < b then b else a)) else (if b < a then b else a)) = f_X3_middle a b c3; unfold f_X3_middle; rfl)
def f_X3_vote (fr : Nat → Int32) (ff : Nat → Int32) (axis : Int32) : Int32 := (if (f_X3_countFresh ff) = (3 : Int32) then (f_X3_middle (fr axis.toNatClampNeg) (fr ((3 : Int32) + axis).toNatClampNeg) (fr ((6 : Int32) + axis).toNatClampNeg)) else (if (ff (0 : Int32).toNatClampNeg) = (0 : Int32) then (if (ff (1 : Int32).toNatClampNeg) = (0 : Int32) then (if (ff (2 : Int32).toNatClampNeg) = (0 : Int32) then (f_J9_floorDiv_7cf53 (0 : Int32) (2 : Int32)) else (f_J9_floorDiv_7cf53 ((0 : Int32) + (fr (((2 : Int32) * (3 : Int32)) + axis).toNatClampNeg)) (2 : Int32))) else (if (ff (2 : Int32).toNatClampNeg) = (0 : Int32) then (f_J9_floorDiv_7cf53 ((0 : Int32) + (fr (((1 : Int32) * (3 : Int32)) + axis).toNatClampNeg)) (2 : Int32)) else (f_J9_floorDiv_7cf53 (((0 : Int32) + (fr (((1 : Int32) * (3 : Int32)) + axis).toNatClampNeg)) + (fr (((2 : Int32) * (3 : Int32)) + axis).toNatClampNeg)) (2 : Int32)))) else (if (ff (1 : Int32).toNatClampNeg) = (0 : Int32) then (if (ff (2 : Int32).toNatClampNeg) = (0 : Int32) then (f_J9_floorDiv_7cf53 ((0 : Int32) + (fr (((0 : Int32) * (3 : Int32)) + axis).toNatClampNeg)) (2 : Int32)) else (f_J9_floorDiv_7cf53 (((0 : Int32) + (fr (((0 : Int32) * (3 : Int32)) + axis).toNatClampNeg)) + (fr (((2 : Int32) * (3 : Int32)) + axis).toNatClampNeg)) (2 : Int32))) else (if (ff (2 : Int32).toNatClampNeg) = (0 : Int32) then (f_J9_floorDiv_7cf53 (((0 : Int32) + (fr (((0 : Int32) * (3 : Int32)) + axis).toNatClampNeg)) + (fr (((1 : Int32) * (3 : Int32)) + axis).toNatClampNeg)) (2 : Int32)) else (f_J9_floorDiv_7cf53 ((((0 : Int32) + (fr (((0 : Int32) * (3 : Int32)) + axis).toNatClampNeg)) + (fr (((1 : Int32) * (3 : Int32)) + axis).toNatClampNeg)) + (fr (((2 : Int32) * (3 : Int32)) + axis).toNatClampNeg)) (2 : Int32))))))
set_option maxHeartbeats 4000000 in
set_option maxRecDepth 100000 in
theorem k_X3_vote (l : Launch) (D : va_G) (cI cZ : ClassId) (q0 : Nat) (q1 : Nat) (q2 : Nat) (sz : Nat) (fr : Nat → Int32) (ff : Nat → Int32) (axis : Int32) (hax : kk_L axis 2) : kk_Mi l D cI cZ yX3_vote wsX3_vote ({ frames := 2, cells := 0, slots := 0, locals := 36 } : Room) [.ref q0, .int axis] sz [(q0, .inr (3, [.ref q1, .ref q2])), (q1, .inl (cI, 9, .inl fr)), (q2, .inl (cZ, 3, .inl ff))] (fun (r : Int32) (_ : Unit) => r = f_X3_vote fr ff axis) (fun _ => [(q0, .inr (3, [.ref q1, .ref q2])), (q1, .inl (cI, 9, .inl fr)), (q2, .inl (cZ, 3, .inl ff))]) 0 0 := by
  refine kk_enti (cc := cX3_vote) (maxL := 4) (ret := (some .int)) (by decide +kernel) rfl (Nat.le_of_ble_eq_true rfl) (fun p e s m args below meth c A ls hX hP hD hS hl => ?_)
  obtain ⟨hx, hb, hml, hown, hts, hr, hlk, hnm, hK, hA⟩ := hX
  have hown : s.vm.findClass RX3 = some m.cls := hown
  have hiX3 : ∀ w ∈ wsX30, w ∈ wsX3_vote := by decide +kernel
  have hl : lv_has ls 4 [(0, .ref q0), (1, .int axis)] := hl
  refine lv_aload_n hx hb dX3_vote_0 rfl (lv_at hl 0 rfl) ?_
  refine kk_cVi (wc := [(q0, .inr (3, [.ref q1, .ref q2])), (q2, .inl (cZ, 3, .inl ff))]) (wr := [(q1, .inl (cI, 9, .inl fr))]) ⟨hx, hb, hml, hown, hts⟩ hK hP hD hS hA [0, 2] [1] (k_X3_countFresh l D cI cZ q0 q1 q2 s.heap.size ff) (cwV 0 hts gX3_vote_X3_countFresh rfl rfl rfl (by decide +kernel) ⟨(Nat.le_of_ble_eq_true rfl), (Nat.le_of_ble_eq_true rfl)⟩) rfl rfl (by decide) (by decide) (by decide) 0 3 rfl rfl rfl rfl hl.1 rfl (Nat.le_of_ble_eq_true rfl) dX3_vote_1 ⟨(Nat.le_of_ble_eq_true rfl), (Nat.le_of_ble_eq_true rfl)⟩ (fun r_1 u H locs hw_2 hP hD hS => ?_)
  have hw_2 : (f_X3_countFresh ff) = r_1 := (hw_2 : r_1 = (f_X3_countFresh ff)).symm
  subst hw_2
  have hP : va_P D vwCl [(q1, .inl (cI, 9, .inl fr)), (q0, .inr (3, [.ref q1, .ref q2])), (q2, .inl (cZ, 3, .inl ff))] H := hP
  have hD : va_D A [(q1, .inl (cI, 9, .inl fr)), (q0, .inr (3, [.ref q1, .ref q2])), (q2, .inl (cZ, 3, .inl ff))] := hD
  refine lv_iconst (v := 3) hx hb dX3_vote_4 (by decide) ?_
  refine lv_icmp_ne (tgt := 35) hx hb dX3_vote_5 (by decide) (fun c_3 => ?_) (fun c_3 => ?_)
  · refine lv_iconst (v := 0) hx hb dX3_vote_35 (by decide) ?_
    refine lv_istore_n (lv' := [(2, .int (0 : Int32)), (0, .ref q0), (1, .int axis)]) hx hb dX3_vote_36 rfl hl (by decide) rfl (fun ls hl => ?_)
    refine lv_iconst (v := 0) hx hb dX3_vote_37 (by decide) ?_
    refine lv_istore_n (lv' := [(3, .int (0 : Int32)), (2, .int (0 : Int32)), (0, .ref q0), (1, .int axis)]) hx hb dX3_vote_38 rfl hl (by decide) rfl (fun ls hl => ?_)
    refine lv_iload_n hx hb dX3_vote_39 rfl (lv_at hl 0 rfl) ?_
    refine lv_iconst (v := 3) hx hb dX3_vote_40 (by decide) ?_
    refine lv_icmp_ge (tgt := 72) hx hb dX3_vote_41 (by decide) (fun z => absurd z (by decide)) (fun _ => ?_)
    refine lv_aload_n hx hb dX3_vote_44 rfl (lv_at hl 2 rfl) ?_
    refine va_get (D := D) hx hb hts hiX3 hown hK.1 hP 1 rfl rfl 1 (by decide) (hts (.fieldLink RX3 15 "FencePilot$Sensors" "fresh" "[Z") (by decide +kernel)) (fun _ h9 => h9) rfl dX3_vote_45 ?_
    refine lv_iload_n hx hb dX3_vote_48 rfl (lv_at hl 0 rfl) ?_
    refine va_zald hx hb hK.1 hP 2 1 rfl rfl (by unfold vp_in; decide) dX3_vote_49 ?_
    refine lv_if_eq (tgt := 66) hx hb dX3_vote_50 (by decide) (fun c_4 => ?_) (fun c_4 => ?_)
    · refine lv_iinc (v := (1 : Int32)) (lv' := [(3, .int (1 : Int32)), (2, .int (0 : Int32)), (0, .ref q0), (1, .int axis)]) hx hb dX3_vote_66 hl (k := 0) rfl (by first | rfl | decide) (by decide) rfl (fun ls hl => ?_)
      refine lv_goto (tgt := 39) hx hb dX3_vote_69 (by decide) ?_
      refine lv_iload_n hx hb dX3_vote_39 rfl (lv_at hl 0 rfl) ?_
      refine lv_iconst (v := 3) hx hb dX3_vote_40 (by decide) ?_
      refine lv_icmp_ge (tgt := 72) hx hb dX3_vote_41 (by decide) (fun z => absurd z (by decide)) (fun _ => ?_)
      refine lv_aload_n hx hb dX3_vote_44 rfl (lv_at hl 2 rfl) ?_
      refine va_get (D := D) hx hb hts hiX3 hown hK.1 hP 1 rfl rfl 1 (by decide) (hts (.fieldLink RX3 15 "FencePilot$Sensors" "fresh" "[Z") (by decide +kernel)) (fun _ h9 => h9) rfl dX3_vote_45 ?_
      refine lv_iload_n hx hb dX3_vote_48 rfl (lv_at hl 0 rfl) ?_
      refine va_zald hx hb hK.1 hP 2 1 rfl rfl (by unfold vp_in; decide) dX3_vote_49 ?_
      refine lv_if_eq (tgt := 66) hx hb dX3_vote_50 (by decide) (fun c_5 => ?_) (fun c_5 => ?_)
      · refine lv_iinc (v := (2 : Int32)) (lv' := [(3, .int (2 : Int32)), (2, .int (0 : Int32)), (0, .ref q0), (1, .int axis)]) hx hb dX3_vote_66 hl (k := 0) rfl (by first | rfl | decide) (by decide) rfl (fun ls hl => ?_)
        refine lv_goto (tgt := 39) hx hb dX3_vote_69 (by decide) ?_
        refine lv_iload_n hx hb dX3_vote_39 rfl (lv_at hl 0 rfl) ?_
        refine lv_iconst (v := 3) hx hb dX3_vote_40 (by decide) ?_
        refine lv_icmp_ge (tgt := 72) hx hb dX3_vote_41 (by decide) (fun z => absurd z (by decide)) (fun _ => ?_)
        refine lv_aload_n hx hb dX3_vote_44 rfl (lv_at hl 2 rfl) ?_
        refine va_get (D := D) hx hb hts hiX3 hown hK.1 hP 1 rfl rfl 1 (by decide) (hts (.fieldLink RX3 15 "FencePilot$Sensors" "fresh" "[Z") (by decide +kernel)) (fun _ h9 => h9) rfl dX3_vote_45 ?_
        refine lv_iload_n hx hb dX3_vote_48 rfl (lv_at hl 0 rfl) ?_
        refine va_zald hx hb hK.1 hP 2 1 rfl rfl (by unfold vp_in; decide) dX3_vote_49 ?_
        refine lv_if_eq (tgt := 66) hx hb dX3_vote_50 (by decide) (fun c_6 => ?_) (fun c_6 => ?_)
        · refine lv_iinc (v := (3 : Int32)) (lv' := [(3, .int (3 : Int32)), (2, .int (0 : Int32)), (0, .ref q0), (1, .int axis)]) hx hb dX3_vote_66 hl (k := 0) rfl (by first | rfl | decide) (by decide) rfl (fun ls hl => ?_)
          refine lv_goto (tgt := 39) hx hb dX3_vote_69 (by decide) ?_
          refine lv_iload_n hx hb dX3_vote_39 rfl (lv_at hl 0 rfl) ?_
          refine lv_iconst (v := 3) hx hb dX3_vote_40 (by decide) ?_
          refine lv_icmp_ge (tgt := 72) hx hb dX3_vote_41 (by decide) (fun _ => ?_) (fun z => absurd (by decide) z)
          refine lv_iload_n hx hb dX3_vote_72 rfl (lv_at hl 1 rfl) ?_
          refine lv_iconst (v := 2) hx hb dX3_vote_73 (by decide) ?_
          refine kk_cSi (wc := []) (wr := [(q1, .inl (cI, 9, .inl fr)), (q0, .inr (3, [.ref q1, .ref q2])), (q2, .inl (cZ, 3, .inl ff))]) ⟨hx, hb, hml, hown, hts⟩ hK hP hD hS hA [] [0, 1, 2] (k_J9_floorDiv_7cf53 l D cI cZ  H.size (0 : Int32) (2 : Int32) (by decide)) (va_cwS 2 hts gX3_vote_J9_floorDiv_7cf53 rfl rfl rfl (by decide +kernel) ⟨(Nat.le_of_ble_eq_true rfl), (Nat.le_of_ble_eq_true rfl)⟩) rfl rfl (by decide) (by decide) (by decide) rfl hl.1 rfl (Nat.le_of_ble_eq_true rfl) dX3_vote_74 ⟨(Nat.le_of_ble_eq_true rfl), (Nat.le_of_ble_eq_true rfl)⟩ (fun r_7 u H locs hw_8 hP hD hS => ?_)
          have hw_8 : (f_J9_floorDiv_7cf53 (0 : Int32) (2 : Int32)) = r_7 := (hw_8 : r_7 = (f_J9_floorDiv_7cf53 (0 : Int32) (2 : Int32))).symm
          subst hw_8
          have hP : va_P D vwCl [(q1, .inl (cI, 9, .inl fr)), (q0, .inr (3, [.ref q1, .ref q2])), (q2, .inl (cZ, 3, .inl ff))] H := hP
          have hD : va_D A [(q1, .inl (cI, 9, .inl fr)), (q0, .inr (3, [.ref q1, .ref q2])), (q2, .inl (cZ, 3, .inl ff))] := hD
          exact kk_ri () hx hb hr hlk dX3_vote_77 hS (hP.sub [1, 0, 2] rfl) (hD.sub [1, 0, 2] (by decide) rfl) (by show (f_J9_floorDiv_7cf53 (0 : Int32) (2 : Int32)) = f_X3_vote fr ff axis; unfold f_X3_vote; rw [if_neg c_3]; rw [if_pos c_4]; rw [if_pos c_5]; rw [if_pos c_6]; try rfl)
        · refine lv_iload_n hx hb dX3_vote_53 rfl (lv_at hl 1 rfl) ?_
          refine lv_aload_n hx hb dX3_vote_54 rfl (lv_at hl 2 rfl) ?_
          refine va_get (D := D) hx hb hts hiX3 hown hK.1 hP 1 rfl rfl 0 (by decide) (hts (.fieldLink RX3 9 "FencePilot$Sensors" "row" "[I") (by decide +kernel)) (fun _ h9 => h9) rfl dX3_vote_55 ?_
          refine lv_iload_n hx hb dX3_vote_58 rfl (lv_at hl 0 rfl) ?_
          refine lv_iconst (v := 3) hx hb dX3_vote_59 (by decide) ?_
          refine lv_imul hx hb dX3_vote_60 ?_
          refine lv_iload_n hx hb dX3_vote_61 rfl (lv_at hl 3 rfl) ?_
          refine lv_iadd hx hb dX3_vote_62 ?_
          refine va_iald hx hb hK.1 hP 0 0 rfl rfl (by first | exact kk_Lix' (kk_Lda hax (by decide) (j := 0) rfl (by decide) (by decide)) (by decide) | exact kk_Lix' (kk_Lda hax (by decide) (j := 3) rfl (by decide) (by decide)) (by decide) | exact kk_Lix' (kk_Lda hax (by decide) (j := 6) rfl (by decide) (by decide)) (by decide)) dX3_vote_63 ?_
          refine lv_iadd hx hb dX3_vote_64 ?_
          refine lv_istore_n (lv' := [(2, .int ((0 : Int32) + (fr (((2 : Int32) * (3 : Int32)) + axis).toNatClampNeg))), (3, .int (2 : Int32)), (0, .ref q0), (1, .int axis)]) hx hb dX3_vote_65 rfl hl (by decide) rfl (fun ls hl => ?_)
          refine lv_iinc (v := (3 : Int32)) (lv' := [(3, .int (3 : Int32)), (2, .int ((0 : Int32) + (fr (((2 : Int32) * (3 : Int32)) + axis).toNatClampNeg))), (0, .ref q0), (1, .int axis)]) hx hb dX3_vote_66 hl (k := 1) rfl (by first | rfl | decide) (by decide) rfl (fun ls hl => ?_)
          refine lv_goto (tgt := 39) hx hb dX3_vote_69 (by decide) ?_
          refine lv_iload_n hx hb dX3_vote_39 rfl (lv_at hl 0 rfl) ?_
          refine lv_iconst (v := 3) hx hb dX3_vote_40 (by decide) ?_
          refine lv_icmp_ge (tgt := 72) hx hb dX3_vote_41 (by decide) (fun _ => ?_) (fun z => absurd (by decide) z)
          refine lv_iload_n hx hb dX3_vote_72 rfl (lv_at hl 1 rfl) ?_
          refine lv_iconst (v := 2) hx hb dX3_vote_73 (by decide) ?_
          refine kk_cSi (wc := []) (wr := [(q1, .inl (cI, 9, .inl fr)), (q0, .inr (3, [.ref q1, .ref q2])), (q2, .inl (cZ, 3, .inl ff))]) ⟨hx, hb, hml, hown, hts⟩ hK hP hD hS hA [] [0, 1, 2] (k_J9_floorDiv_7cf53 l D cI cZ  H.size ((0 : Int32) + (fr (((2 : Int32) * (3 : Int32)) + axis).toNatClampNeg)) (2 : Int32) (by decide)) (va_cwS 2 hts gX3_vote_J9_floorDiv_7cf53 rfl rfl rfl (by decide +kernel) ⟨(Nat.le_of_ble_eq_true rfl), (Nat.le_of_ble_eq_true rfl)⟩) rfl rfl (by decide) (by decide) (by decide) rfl hl.1 rfl (Nat.le_of_ble_eq_true rfl) dX3_vote_74 ⟨(Nat.le_of_ble_eq_true rfl), (Nat.le_of_ble_eq_true rfl)⟩ (fun r_9 u H locs hw_10 hP hD hS => ?_)
          have hw_10 : (f_J9_floorDiv_7cf53 ((0 : Int32) + (fr (((2 : Int32) * (3 : Int32)) + axis).toNatClampNeg)) (2 : Int32)) = r_9 := (hw_10 : r_9 = (f_J9_floorDiv_7cf53 ((0 : Int32) + (fr (((2 : Int32) * (3 : Int32)) + axis).toNatClampNeg)) (2 : Int32))).symm
          subst hw_10
          have hP : va_P D vwCl [(q1, .inl (cI, 9, .inl fr)), (q0, .inr (3, [.ref q1, .ref q2])), (q2, .inl (cZ, 3, .inl ff))] H := hP
          have hD : va_D A [(q1, .inl (cI, 9, .inl fr)), (q0, .inr (3, [.ref q1, .ref q2])), (q2, .inl (cZ, 3, .inl ff))] := hD
          exact kk_ri () hx hb hr hlk dX3_vote_77 hS (hP.sub [1, 0, 2] rfl) (hD.sub [1, 0, 2] (by decide) rfl) (by show (f_J9_floorDiv_7cf53 ((0 : Int32) + (fr (((2 : Int32) * (3 : Int32)) + axis).toNatClampNeg)) (2 : Int32)) = f_X3_vote fr ff axis; unfold f_X3_vote; rw [if_neg c_3]; rw [if_pos c_4]; rw [if_pos c_5]; rw [if_neg c_6]; try rfl)
      · refine lv_iload_n hx hb dX3_vote_53 rfl (lv_at hl 1 rfl) ?_
        refine lv_aload_n hx hb dX3_vote_54 rfl (lv_at hl 2 rfl) ?_
        refine va_get (D := D) hx hb hts hiX3 hown hK.1 hP 1 rfl rfl 0 (by decide) (hts (.fieldLink RX3 9 "FencePilot$Sensors" "row" "[I") (by decide +kernel)) (fun _ h9 => h9) rfl dX3_vote_55 ?_
        refine lv_iload_n hx hb dX3_vote_58 rfl (lv_at hl 0 rfl) ?_
        refine lv_iconst (v := 3) hx hb dX3_vote_59 (by decide) ?_
        refine lv_imul hx hb dX3_vote_60 ?_
        refine lv_iload_n hx hb dX3_vote_61 rfl (lv_at hl 3 rfl) ?_
        refine lv_iadd hx hb dX3_vote_62 ?_
        refine va_iald hx hb hK.1 hP 0 0 rfl rfl (by first | exact kk_Lix' (kk_Lda hax (by decide) (j := 0) rfl (by decide) (by decide)) (by decide) | exact kk_Lix' (kk_Lda hax (by decide) (j := 3) rfl (by decide) (by decide)) (by decide) | exact kk_Lix' (kk_Lda hax (by decide) (j := 6) rfl (by decide) (by decide)) (by decide)) dX3_vote_63 ?_
        refine lv_iadd hx hb dX3_vote_64 ?_
        refine lv_istore_n (lv' := [(2, .int ((0 : Int32) + (fr (((1 : Int32) * (3 : Int32)) + axis).toNatClampNeg))), (3, .int (1 : Int32)), (0, .ref q0), (1, .int axis)]) hx hb dX3_vote_65 rfl hl (by decide) rfl (fun ls hl => ?_)
        refine lv_iinc (v := (2 : Int32)) (lv' := [(3, .int (2 : Int32)), (2, .int ((0 : Int32) + (fr (((1 : Int32) * (3 : Int32)) + axis).toNatClampNeg))), (0, .ref q0), (1, .int axis)]) hx hb dX3_vote_66 hl (k := 1) rfl (by first | rfl | decide) (by decide) rfl (fun ls hl => ?_)
        refine lv_goto (tgt := 39) hx hb dX3_vote_69 (by decide) ?_
        refine lv_iload_n hx hb dX3_vote_39 rfl (lv_at hl 0 rfl) ?_
        refine lv_iconst (v := 3) hx hb dX3_vote_40 (by decide) ?_
        refine lv_icmp_ge (tgt := 72) hx hb dX3_vote_41 (by decide) (fun z => absurd z (by decide)) (fun _ => ?_)
        refine lv_aload_n hx hb dX3_vote_44 rfl (lv_at hl 2 rfl) ?_
        refine va_get (D := D) hx hb hts hiX3 hown hK.1 hP 1 rfl rfl 1 (by decide) (hts (.fieldLink RX3 15 "FencePilot$Sensors" "fresh" "[Z") (by decide +kernel)) (fun _ h9 => h9) rfl dX3_vote_45 ?_
        refine lv_iload_n hx hb dX3_vote_48 rfl (lv_at hl 0 rfl) ?_
        refine va_zald hx hb hK.1 hP 2 1 rfl rfl (by unfold vp_in; decide) dX3_vote_49 ?_
        refine lv_if_eq (tgt := 66) hx hb dX3_vote_50 (by decide) (fun c_11 => ?_) (fun c_11 => ?_)
        · refine lv_iinc (v := (3 : Int32)) (lv' := [(3, .int (3 : Int32)), (2, .int ((0 : Int32) + (fr (((1 : Int32) * (3 : Int32)) + axis).toNatClampNeg))), (0, .ref q0), (1, .int axis)]) hx hb dX3_vote_66 hl (k := 0) rfl (by first | rfl | decide) (by decide) rfl (fun ls hl => ?_)
          refine lv_goto (tgt := 39) hx hb dX3_vote_69 (by decide) ?_
          refine lv_iload_n hx hb dX3_vote_39 rfl (lv_at hl 0 rfl) ?_
          refine lv_iconst (v := 3) hx hb dX3_vote_40 (by decide) ?_
          refine lv_icmp_ge (tgt := 72) hx hb dX3_vote_41 (by decide) (fun _ => ?_) (fun z => absurd (by decide) z)
          refine lv_iload_n hx hb dX3_vote_72 rfl (lv_at hl 1 rfl) ?_
          refine lv_iconst (v := 2) hx hb dX3_vote_73 (by decide) ?_
          refine kk_cSi (wc := []) (wr := [(q1, .inl (cI, 9, .inl fr)), (q0, .inr (3, [.ref q1, .ref q2])), (q2, .inl (cZ, 3, .inl ff))]) ⟨hx, hb, hml, hown, hts⟩ hK hP hD hS hA [] [0, 1, 2] (k_J9_floorDiv_7cf53 l D cI cZ  H.size ((0 : Int32) + (fr (((1 : Int32) * (3 : Int32)) + axis).toNatClampNeg)) (2 : Int32) (by decide)) (va_cwS 2 hts gX3_vote_J9_floorDiv_7cf53 rfl rfl rfl (by decide +kernel) ⟨(Nat.le_of_ble_eq_true rfl), (Nat.le_of_ble_eq_true rfl)⟩) rfl rfl (by decide) (by decide) (by decide) rfl hl.1 rfl (Nat.le_of_ble_eq_true rfl) dX3_vote_74 ⟨(Nat.le_of_ble_eq_true rfl), (Nat.le_of_ble_eq_true rfl)⟩ (fun r_12 u H locs hw_13 hP hD hS => ?_)
          have hw_13 : (f_J9_floorDiv_7cf53 ((0 : Int32) + (fr (((1 : Int32) * (3 : Int32)) + axis).toNatClampNeg)) (2 : Int32)) = r_12 := (hw_13 : r_12 = (f_J9_floorDiv_7cf53 ((0 : Int32) + (fr (((1 : Int32) * (3 : Int32)) + axis).toNatClampNeg)) (2 : Int32))).symm
          subst hw_13
          have hP : va_P D vwCl [(q1, .inl (cI, 9, .inl fr)), (q0, .inr (3, [.ref q1, .ref q2])), (q2, .inl (cZ, 3, .inl ff))] H := hP
          have hD : va_D A [(q1, .inl (cI, 9, .inl fr)), (q0, .inr (3, [.ref q1, .ref q2])), (q2, .inl (cZ, 3, .inl ff))] := hD
          exact kk_ri () hx hb hr hlk dX3_vote_77 hS (hP.sub [1, 0, 2] rfl) (hD.sub [1, 0, 2] (by decide) rfl) (by show (f_J9_floorDiv_7cf53 ((0 : Int32) + (fr (((1 : Int32) * (3 : Int32)) + axis).toNatClampNeg)) (2 : Int32)) = f_X3_vote fr ff axis; unfold f_X3_vote; rw [if_neg c_3]; rw [if_pos c_4]; rw [if_neg c_5]; rw [if_pos c_11]; try rfl)
        · refine lv_iload_n hx hb dX3_vote_53 rfl (lv_at hl 1 rfl) ?_
          refine lv_aload_n hx hb dX3_vote_54 rfl (lv_at hl 2 rfl) ?_
          refine va_get (D := D) hx hb hts hiX3 hown hK.1 hP 1 rfl rfl 0 (by decide) (hts (.fieldLink RX3 9 "FencePilot$Sensors" "row" "[I") (by decide +kernel)) (fun _ h9 => h9) rfl dX3_vote_55 ?_
          refine lv_iload_n hx hb dX3_vote_58 rfl (lv_at hl 0 rfl) ?_
          refine lv_iconst (v := 3) hx hb dX3_vote_59 (by decide) ?_
          refine lv_imul hx hb dX3_vote_60 ?_
          refine lv_iload_n hx hb dX3_vote_61 rfl (lv_at hl 3 rfl) ?_
          refine lv_iadd hx hb dX3_vote_62 ?_
          refine va_iald hx hb hK.1 hP 0 0 rfl rfl (by first | exact kk_Lix' (kk_Lda hax (by decide) (j := 0) rfl (by decide) (by decide)) (by decide) | exact kk_Lix' (kk_Lda hax (by decide) (j := 3) rfl (by decide) (by decide)) (by decide) | exact kk_Lix' (kk_Lda hax (by decide) (j := 6) rfl (by decide) (by decide)) (by decide)) dX3_vote_63 ?_
          refine lv_iadd hx hb dX3_vote_64 ?_
          refine lv_istore_n (lv' := [(2, .int (((0 : Int32) + (fr (((1 : Int32) * (3 : Int32)) + axis).toNatClampNeg)) + (fr (((2 : Int32) * (3 : Int32)) + axis).toNatClampNeg))), (3, .int (2 : Int32)), (0, .ref q0), (1, .int axis)]) hx hb dX3_vote_65 rfl hl (by decide) rfl (fun ls hl => ?_)
          refine lv_iinc (v := (3 : Int32)) (lv' := [(3, .int (3 : Int32)), (2, .int (((0 : Int32) + (fr (((1 : Int32) * (3 : Int32)) + axis).toNatClampNeg)) + (fr (((2 : Int32) * (3 : Int32)) + axis).toNatClampNeg))), (0, .ref q0), (1, .int axis)]) hx hb dX3_vote_66 hl (k := 1) rfl (by first | rfl | decide) (by decide) rfl (fun ls hl => ?_)
          refine lv_goto (tgt := 39) hx hb dX3_vote_69 (by decide) ?_
          refine lv_iload_n hx hb dX3_vote_39 rfl (lv_at hl 0 rfl) ?_
          refine lv_iconst (v := 3) hx hb dX3_vote_40 (by decide) ?_
          refine lv_icmp_ge (tgt := 72) hx hb dX3_vote_41 (by decide) (fun _ => ?_) (fun z => absurd (by decide) z)
          refine lv_iload_n hx hb dX3_vote_72 rfl (lv_at hl 1 rfl) ?_
          refine lv_iconst (v := 2) hx hb dX3_vote_73 (by decide) ?_
          refine kk_cSi (wc := []) (wr := [(q1, .inl (cI, 9, .inl fr)), (q0, .inr (3, [.ref q1, .ref q2])), (q2, .inl (cZ, 3, .inl ff))]) ⟨hx, hb, hml, hown, hts⟩ hK hP hD hS hA [] [0, 1, 2] (k_J9_floorDiv_7cf53 l D cI cZ  H.size (((0 : Int32) + (fr (((1 : Int32) * (3 : Int32)) + axis).toNatClampNeg)) + (fr (((2 : Int32) * (3 : Int32)) + axis).toNatClampNeg)) (2 : Int32) (by decide)) (va_cwS 2 hts gX3_vote_J9_floorDiv_7cf53 rfl rfl rfl (by decide +kernel) ⟨(Nat.le_of_ble_eq_true rfl), (Nat.le_of_ble_eq_true rfl)⟩) rfl rfl (by decide) (by decide) (by decide) rfl hl.1 rfl (Nat.le_of_ble_eq_true rfl) dX3_vote_74 ⟨(Nat.le_of_ble_eq_true rfl), (Nat.le_of_ble_eq_true rfl)⟩ (fun r_14 u H locs hw_15 hP hD hS => ?_)
          have hw_15 : (f_J9_floorDiv_7cf53 (((0 : Int32) + (fr (((1 : Int32) * (3 : Int32)) + axis).toNatClampNeg)) + (fr (((2 : Int32) * (3 : Int32)) + axis).toNatClampNeg)) (2 : Int32)) = r_14 := (hw_15 : r_14 = (f_J9_floorDiv_7cf53 (((0 : Int32) + (fr (((1 : Int32) * (3 : Int32)) + axis).toNatClampNeg)) + (fr (((2 : Int32) * (3 : Int32)) + axis).toNatClampNeg)) (2 : Int32))).symm
          subst hw_15
          have hP : va_P D vwCl [(q1, .inl (cI, 9, .inl fr)), (q0, .inr (3, [.ref q1, .ref q2])), (q2, .inl (cZ, 3, .inl ff))] H := hP
          have hD : va_D A [(q1, .inl (cI, 9, .inl fr)), (q0, .inr (3, [.ref q1, .ref q2])), (q2, .inl (cZ, 3, .inl ff))] := hD
          exact kk_ri () hx hb hr hlk dX3_vote_77 hS (hP.sub [1, 0, 2] rfl) (hD.sub [1, 0, 2] (by decide) rfl) (by show (f_J9_floorDiv_7cf53 (((0 : Int32) + (fr (((1 : Int32) * (3 : Int32)) + axis).toNatClampNeg)) + (fr (((2 : Int32) * (3 : Int32)) + axis).toNatClampNeg)) (2 : Int32)) = f_X3_vote fr ff axis; unfold f_X3_vote; rw [if_neg c_3]; rw [if_pos c_4]; rw [if_neg c_5]; rw [if_neg c_11]; try rfl)
    · refine lv_iload_n hx hb dX3_vote_53 rfl (lv_at hl 1 rfl) ?_
      refine lv_aload_n hx hb dX3_vote_54 rfl (lv_at hl 2 rfl) ?_
      refine va_get (D := D) hx hb hts hiX3 hown hK.1 hP 1 rfl rfl 0 (by decide) (hts (.fieldLink RX3 9 "FencePilot$Sensors" "row" "[I") (by decide +kernel)) (fun _ h9 => h9) rfl dX3_vote_55 ?_
      refine lv_iload_n hx hb dX3_vote_58 rfl (lv_at hl 0 rfl) ?_
      refine lv_iconst (v := 3) hx hb dX3_vote_59 (by decide) ?_
      refine lv_imul hx hb dX3_vote_60 ?_
      refine lv_iload_n hx hb dX3_vote_61 rfl (lv_at hl 3 rfl) ?_
      refine lv_iadd hx hb dX3_vote_62 ?_
      refine va_iald hx hb hK.1 hP 0 0 rfl rfl (by first | exact kk_Lix' (kk_Lda hax (by decide) (j := 0) rfl (by decide) (by decide)) (by decide) | exact kk_Lix' (kk_Lda hax (by decide) (j := 3) rfl (by decide) (by decide)) (by decide) | exact kk_Lix' (kk_Lda hax (by decide) (j := 6) rfl (by decide) (by decide)) (by decide)) dX3_vote_63 ?_
      refine lv_iadd hx hb dX3_vote_64 ?_
      refine lv_istore_n (lv' := [(2, .int ((0 : Int32) + (fr (((0 : Int32) * (3 : Int32)) + axis).toNatClampNeg))), (3, .int (0 : Int32)), (0, .ref q0), (1, .int axis)]) hx hb dX3_vote_65 rfl hl (by decide) rfl (fun ls hl => ?_)
      refine lv_iinc (v := (1 : Int32)) (lv' := [(3, .int (1 : Int32)), (2, .int ((0 : Int32) + (fr (((0 : Int32) * (3 : Int32)) + axis).toNatClampNeg))), (0, .ref q0), (1, .int axis)]) hx hb dX3_vote_66 hl (k := 1) rfl (by first | rfl | decide) (by decide) rfl (fun ls hl => ?_)
      refine lv_goto (tgt := 39) hx hb dX3_vote_69 (by decide) ?_
      refine lv_iload_n hx hb dX3_vote_39 rfl (lv_at hl 0 rfl) ?_
      refine lv_iconst (v := 3) hx hb dX3_vote_40 (by decide) ?_
      refine lv_icmp_ge (tgt := 72) hx hb dX3_vote_41 (by decide) (fun z => absurd z (by decide)) (fun _ => ?_)
      refine lv_aload_n hx hb dX3_vote_44 rfl (lv_at hl 2 rfl) ?_
      refine va_get (D := D) hx hb hts hiX3 hown hK.1 hP 1 rfl rfl 1 (by decide) (hts (.fieldLink RX3 15 "FencePilot$Sensors" "fresh" "[Z") (by decide +kernel)) (fun _ h9 => h9) rfl dX3_vote_45 ?_
      refine lv_iload_n hx hb dX3_vote_48 rfl (lv_at hl 0 rfl) ?_
      refine va_zald hx hb hK.1 hP 2 1 rfl rfl (by unfold vp_in; decide) dX3_vote_49 ?_
      refine lv_if_eq (tgt := 66) hx hb dX3_vote_50 (by decide) (fun c_16 => ?_) (fun c_16 => ?_)
      · refine lv_iinc (v := (2 : Int32)) (lv' := [(3, .int (2 : Int32)), (2, .int ((0 : Int32) + (fr (((0 : Int32) * (3 : Int32)) + axis).toNatClampNeg))), (0, .ref q0), (1, .int axis)]) hx hb dX3_vote_66 hl (k := 0) rfl (by first | rfl | decide) (by decide) rfl (fun ls hl => ?_)
        refine lv_goto (tgt := 39) hx hb dX3_vote_69 (by decide) ?_
        refine lv_iload_n hx hb dX3_vote_39 rfl (lv_at hl 0 rfl) ?_
        refine lv_iconst (v := 3) hx hb dX3_vote_40 (by decide) ?_
        refine lv_icmp_ge (tgt := 72) hx hb dX3_vote_41 (by decide) (fun z => absurd z (by decide)) (fun _ => ?_)
        refine lv_aload_n hx hb dX3_vote_44 rfl (lv_at hl 2 rfl) ?_
        refine va_get (D := D) hx hb hts hiX3 hown hK.1 hP 1 rfl rfl 1 (by decide) (hts (.fieldLink RX3 15 "FencePilot$Sensors" "fresh" "[Z") (by decide +kernel)) (fun _ h9 => h9) rfl dX3_vote_45 ?_
        refine lv_iload_n hx hb dX3_vote_48 rfl (lv_at hl 0 rfl) ?_
        refine va_zald hx hb hK.1 hP 2 1 rfl rfl (by unfold vp_in; decide) dX3_vote_49 ?_
        refine lv_if_eq (tgt := 66) hx hb dX3_vote_50 (by decide) (fun c_17 => ?_) (fun c_17 => ?_)
        · refine lv_iinc (v := (3 : Int32)) (lv' := [(3, .int (3 : Int32)), (2, .int ((0 : Int32) + (fr (((0 : Int32) * (3 : Int32)) + axis).toNatClampNeg))), (0, .ref q0), (1, .int axis)]) hx hb dX3_vote_66 hl (k := 0) rfl (by first | rfl | decide) (by decide) rfl (fun ls hl => ?_)
          refine lv_goto (tgt := 39) hx hb dX3_vote_69 (by decide) ?_
          refine lv_iload_n hx hb dX3_vote_39 rfl (lv_at hl 0 rfl) ?_
          refine lv_iconst (v := 3) hx hb dX3_vote_40 (by decide) ?_
          refine lv_icmp_ge (tgt := 72) hx hb dX3_vote_41 (by decide) (fun _ => ?_) (fun z => absurd (by decide) z)
          refine lv_iload_n hx hb dX3_vote_72 rfl (lv_at hl 1 rfl) ?_
          refine lv_iconst (v := 2) hx hb dX3_vote_73 (by decide) ?_
          refine kk_cSi (wc := []) (wr := [(q1, .inl (cI, 9, .inl fr)), (q0, .inr (3, [.ref q1, .ref q2])), (q2, .inl (cZ, 3, .inl ff))]) ⟨hx, hb, hml, hown, hts⟩ hK hP hD hS hA [] [0, 1, 2] (k_J9_floorDiv_7cf53 l D cI cZ  H.size ((0 : Int32) + (fr (((0 : Int32) * (3 : Int32)) + axis).toNatClampNeg)) (2 : Int32) (by decide)) (va_cwS 2 hts gX3_vote_J9_floorDiv_7cf53 rfl rfl rfl (by decide +kernel) ⟨(Nat.le_of_ble_eq_true rfl), (Nat.le_of_ble_eq_true rfl)⟩) rfl rfl (by decide) (by decide) (by decide) rfl hl.1 rfl (Nat.le_of_ble_eq_true rfl) dX3_vote_74 ⟨(Nat.le_of_ble_eq_true rfl), (Nat.le_of_ble_eq_true rfl)⟩ (fun r_18 u H locs hw_19 hP hD hS => ?_)
          have hw_19 : (f_J9_floorDiv_7cf53 ((0 : Int32) + (fr (((0 : Int32) * (3 : Int32)) + axis).toNatClampNeg)) (2 : Int32)) = r_18 := (hw_19 : r_18 = (f_J9_floorDiv_7cf53 ((0 : Int32) + (fr (((0 : Int32) * (3 : Int32)) + axis).toNatClampNeg)) (2 : Int32))).symm
          subst hw_19
          have hP : va_P D vwCl [(q1, .inl (cI, 9, .inl fr)), (q0, .inr (3, [.ref q1, .ref q2])), (q2, .inl (cZ, 3, .inl ff))] H := hP
          have hD : va_D A [(q1, .inl (cI, 9, .inl fr)), (q0, .inr (3, [.ref q1, .ref q2])), (q2, .inl (cZ, 3, .inl ff))] := hD
          exact kk_ri () hx hb hr hlk dX3_vote_77 hS (hP.sub [1, 0, 2] rfl) (hD.sub [1, 0, 2] (by decide) rfl) (by show (f_J9_floorDiv_7cf53 ((0 : Int32) + (fr (((0 : Int32) * (3 : Int32)) + axis).toNatClampNeg)) (2 : Int32)) = f_X3_vote fr ff axis; unfold f_X3_vote; rw [if_neg c_3]; rw [if_neg c_4]; rw [if_pos c_16]; rw [if_pos c_17]; try rfl)
        · refine lv_iload_n hx hb dX3_vote_53 rfl (lv_at hl 1 rfl) ?_
          refine lv_aload_n hx hb dX3_vote_54 rfl (lv_at hl 2 rfl) ?_
          refine va_get (D := D) hx hb hts hiX3 hown hK.1 hP 1 rfl rfl 0 (by decide) (hts (.fieldLink RX3 9 "FencePilot$Sensors" "row" "[I") (by decide +kernel)) (fun _ h9 => h9) rfl dX3_vote_55 ?_
          refine lv_iload_n hx hb dX3_vote_58 rfl (lv_at hl 0 rfl) ?_
          refine lv_iconst (v := 3) hx hb dX3_vote_59 (by decide) ?_
          refine lv_imul hx hb dX3_vote_60 ?_
          refine lv_iload_n hx hb dX3_vote_61 rfl (lv_at hl 3 rfl) ?_
          refine lv_iadd hx hb dX3_vote_62 ?_
          refine va_iald hx hb hK.1 hP 0 0 rfl rfl (by first | exact kk_Lix' (kk_Lda hax (by decide) (j := 0) rfl (by decide) (by decide)) (by decide) | exact kk_Lix' (kk_Lda hax (by decide) (j := 3) rfl (by decide) (by decide)) (by decide) | exact kk_Lix' (kk_Lda hax (by decide) (j := 6) rfl (by decide) (by decide)) (by decide)) dX3_vote_63 ?_
          refine lv_iadd hx hb dX3_vote_64 ?_
          refine lv_istore_n (lv' := [(2, .int (((0 : Int32) + (fr (((0 : Int32) * (3 : Int32)) + axis).toNatClampNeg)) + (fr (((2 : Int32) * (3 : Int32)) + axis).toNatClampNeg))), (3, .int (2 : Int32)), (0, .ref q0), (1, .int axis)]) hx hb dX3_vote_65 rfl hl (by decide) rfl (fun ls hl => ?_)
          refine lv_iinc (v := (3 : Int32)) (lv' := [(3, .int (3 : Int32)), (2, .int (((0 : Int32) + (fr (((0 : Int32) * (3 : Int32)) + axis).toNatClampNeg)) + (fr (((2 : Int32) * (3 : Int32)) + axis).toNatClampNeg))), (0, .ref q0), (1, .int axis)]) hx hb dX3_vote_66 hl (k := 1) rfl (by first | rfl | decide) (by decide) rfl (fun ls hl => ?_)
          refine lv_goto (tgt := 39) hx hb dX3_vote_69 (by decide) ?_
          refine lv_iload_n hx hb dX3_vote_39 rfl (lv_at hl 0 rfl) ?_
          refine lv_iconst (v := 3) hx hb dX3_vote_40 (by decide) ?_
          refine lv_icmp_ge (tgt := 72) hx hb dX3_vote_41 (by decide) (fun _ => ?_) (fun z => absurd (by decide) z)
          refine lv_iload_n hx hb dX3_vote_72 rfl (lv_at hl 1 rfl) ?_
          refine lv_iconst (v := 2) hx hb dX3_vote_73 (by decide) ?_
          refine kk_cSi (wc := []) (wr := [(q1, .inl (cI, 9, .inl fr)), (q0, .inr (3, [.ref q1, .ref q2])), (q2, .inl (cZ, 3, .inl ff))]) ⟨hx, hb, hml, hown, hts⟩ hK hP hD hS hA [] [0, 1, 2] (k_J9_floorDiv_7cf53 l D cI cZ  H.size (((0 : Int32) + (fr (((0 : Int32) * (3 : Int32)) + axis).toNatClampNeg)) + (fr (((2 : Int32) * (3 : Int32)) + axis).toNatClampNeg)) (2 : Int32) (by decide)) (va_cwS 2 hts gX3_vote_J9_floorDiv_7cf53 rfl rfl rfl (by decide +kernel) ⟨(Nat.le_of_ble_eq_true rfl), (Nat.le_of_ble_eq_true rfl)⟩) rfl rfl (by decide) (by decide) (by decide) rfl hl.1 rfl (Nat.le_of_ble_eq_true rfl) dX3_vote_74 ⟨(Nat.le_of_ble_eq_true rfl), (Nat.le_of_ble_eq_true rfl)⟩ (fun r_20 u H locs hw_21 hP hD hS => ?_)
          have hw_21 : (f_J9_floorDiv_7cf53 (((0 : Int32) + (fr (((0 : Int32) * (3 : Int32)) + axis).toNatClampNeg)) + (fr (((2 : Int32) * (3 : Int32)) + axis).toNatClampNeg)) (2 : Int32)) = r_20 := (hw_21 : r_20 = (f_J9_floorDiv_7cf53 (((0 : Int32) + (fr (((0 : Int32) * (3 : Int32)) + axis).toNatClampNeg)) + (fr (((2 : Int32) * (3 : Int32)) + axis).toNatClampNeg)) (2 : Int32))).symm
          subst hw_21
          have hP : va_P D vwCl [(q1, .inl (cI, 9, .inl fr)), (q0, .inr (3, [.ref q1, .ref q2])), (q2, .inl (cZ, 3, .inl ff))] H := hP
          have hD : va_D A [(q1, .inl (cI, 9, .inl fr)), (q0, .inr (3, [.ref q1, .ref q2])), (q2, .inl (cZ, 3, .inl ff))] := hD
          exact kk_ri () hx hb hr hlk dX3_vote_77 hS (hP.sub [1, 0, 2] rfl) (hD.sub [1, 0, 2] (by decide) rfl) (by show (f_J9_floorDiv_7cf53 (((0 : Int32) + (fr (((0 : Int32) * (3 : Int32)) + axis).toNatClampNeg)) + (fr (((2 : Int32) * (3 : Int32)) + axis).toNatClampNeg)) (2 : Int32)) = f_X3_vote fr ff axis; unfold f_X3_vote; rw [if_neg c_3]; rw [if_neg c_4]; rw [if_pos c_16]; rw [if_neg c_17]; try rfl)
      · refine lv_iload_n hx hb dX3_vote_53 rfl (lv_at hl 1 rfl) ?_
        refine lv_aload_n hx hb dX3_vote_54 rfl (lv_at hl 2 rfl) ?_
        refine va_get (D := D) hx hb hts hiX3 hown hK.1 hP 1 rfl rfl 0 (by decide) (hts (.fieldLink RX3 9 "FencePilot$Sensors" "row" "[I") (by decide +kernel)) (fun _ h9 => h9) rfl dX3_vote_55 ?_
        refine lv_iload_n hx hb dX3_vote_58 rfl (lv_at hl 0 rfl) ?_
        refine lv_iconst (v := 3) hx hb dX3_vote_59 (by decide) ?_
        refine lv_imul hx hb dX3_vote_60 ?_
        refine lv_iload_n hx hb dX3_vote_61 rfl (lv_at hl 3 rfl) ?_
        refine lv_iadd hx hb dX3_vote_62 ?_
        refine va_iald hx hb hK.1 hP 0 0 rfl rfl (by first | exact kk_Lix' (kk_Lda hax (by decide) (j := 0) rfl (by decide) (by decide)) (by decide) | exact kk_Lix' (kk_Lda hax (by decide) (j := 3) rfl (by decide) (by decide)) (by decide) | exact kk_Lix' (kk_Lda hax (by decide) (j := 6) rfl (by decide) (by decide)) (by decide)) dX3_vote_63 ?_
        refine lv_iadd hx hb dX3_vote_64 ?_
        refine lv_istore_n (lv' := [(2, .int (((0 : Int32) + (fr (((0 : Int32) * (3 : Int32)) + axis).toNatClampNeg)) + (fr (((1 : Int32) * (3 : Int32)) + axis).toNatClampNeg))), (3, .int (1 : Int32)), (0, .ref q0), (1, .int axis)]) hx hb dX3_vote_65 rfl hl (by decide) rfl (fun ls hl => ?_)
        refine lv_iinc (v := (2 : Int32)) (lv' := [(3, .int (2 : Int32)), (2, .int (((0 : Int32) + (fr (((0 : Int32) * (3 : Int32)) + axis).toNatClampNeg)) + (fr (((1 : Int32) * (3 : Int32)) + axis).toNatClampNeg))), (0, .ref q0), (1, .int axis)]) hx hb dX3_vote_66 hl (k := 1) rfl (by first | rfl | decide) (by decide) rfl (fun ls hl => ?_)
        refine lv_goto (tgt := 39) hx hb dX3_vote_69 (by decide) ?_
        refine lv_iload_n hx hb dX3_vote_39 rfl (lv_at hl 0 rfl) ?_
        refine lv_iconst (v := 3) hx hb dX3_vote_40 (by decide) ?_
        refine lv_icmp_ge (tgt := 72) hx hb dX3_vote_41 (by decide) (fun z => absurd z (by decide)) (fun _ => ?_)
        refine lv_aload_n hx hb dX3_vote_44 rfl (lv_at hl 2 rfl) ?_
        refine va_get (D := D) hx hb hts hiX3 hown hK.1 hP 1 rfl rfl 1 (by decide) (hts (.fieldLink RX3 15 "FencePilot$Sensors" "fresh" "[Z") (by decide +kernel)) (fun _ h9 => h9) rfl dX3_vote_45 ?_
        refine lv_iload_n hx hb dX3_vote_48 rfl (lv_at hl 0 rfl) ?_
        refine va_zald hx hb hK.1 hP 2 1 rfl rfl (by unfold vp_in; decide) dX3_vote_49 ?_
        refine lv_if_eq (tgt := 66) hx hb dX3_vote_50 (by decide) (fun c_22 => ?_) (fun c_22 => ?_)
        · refine lv_iinc (v := (3 : Int32)) (lv' := [(3, .int (3 : Int32)), (2, .int (((0 : Int32) + (fr (((0 : Int32) * (3 : Int32)) + axis).toNatClampNeg)) + (fr (((1 : Int32) * (3 : Int32)) + axis).toNatClampNeg))), (0, .ref q0), (1, .int axis)]) hx hb dX3_vote_66 hl (k := 0) rfl (by first | rfl | decide) (by decide) rfl (fun ls hl => ?_)
          refine lv_goto (tgt := 39) hx hb dX3_vote_69 (by decide) ?_
          refine lv_iload_n hx hb dX3_vote_39 rfl (lv_at hl 0 rfl) ?_
          refine lv_iconst (v := 3) hx hb dX3_vote_40 (by decide) ?_
          refine lv_icmp_ge (tgt := 72) hx hb dX3_vote_41 (by decide) (fun _ => ?_) (fun z => absurd (by decide) z)
          refine lv_iload_n hx hb dX3_vote_72 rfl (lv_at hl 1 rfl) ?_
          refine lv_iconst (v := 2) hx hb dX3_vote_73 (by decide) ?_
          refine kk_cSi (wc := []) (wr := [(q1, .inl (cI, 9, .inl fr)), (q0, .inr (3, [.ref q1, .ref q2])), (q2, .inl (cZ, 3, .inl ff))]) ⟨hx, hb, hml, hown, hts⟩ hK hP hD hS hA [] [0, 1, 2] (k_J9_floorDiv_7cf53 l D cI cZ  H.size (((0 : Int32) + (fr (((0 : Int32) * (3 : Int32)) + axis).toNatClampNeg)) + (fr (((1 : Int32) * (3 : Int32)) + axis).toNatClampNeg)) (2 : Int32) (by decide)) (va_cwS 2 hts gX3_vote_J9_floorDiv_7cf53 rfl rfl rfl (by decide +kernel) ⟨(Nat.le_of_ble_eq_true rfl), (Nat.le_of_ble_eq_true rfl)⟩) rfl rfl (by decide) (by decide) (by decide) rfl hl.1 rfl (Nat.le_of_ble_eq_true rfl) dX3_vote_74 ⟨(Nat.le_of_ble_eq_true rfl), (Nat.le_of_ble_eq_true rfl)⟩ (fun r_23 u H locs hw_24 hP hD hS => ?_)
          have hw_24 : (f_J9_floorDiv_7cf53 (((0 : Int32) + (fr (((0 : Int32) * (3 : Int32)) + axis).toNatClampNeg)) + (fr (((1 : Int32) * (3 : Int32)) + axis).toNatClampNeg)) (2 : Int32)) = r_23 := (hw_24 : r_23 = (f_J9_floorDiv_7cf53 (((0 : Int32) + (fr (((0 : Int32) * (3 : Int32)) + axis).toNatClampNeg)) + (fr (((1 : Int32) * (3 : Int32)) + axis).toNatClampNeg)) (2 : Int32))).symm
          subst hw_24
          have hP : va_P D vwCl [(q1, .inl (cI, 9, .inl fr)), (q0, .inr (3, [.ref q1, .ref q2])), (q2, .inl (cZ, 3, .inl ff))] H := hP
          have hD : va_D A [(q1, .inl (cI, 9, .inl fr)), (q0, .inr (3, [.ref q1, .ref q2])), (q2, .inl (cZ, 3, .inl ff))] := hD
          exact kk_ri () hx hb hr hlk dX3_vote_77 hS (hP.sub [1, 0, 2] rfl) (hD.sub [1, 0, 2] (by decide) rfl) (by show (f_J9_floorDiv_7cf53 (((0 : Int32) + (fr (((0 : Int32) * (3 : Int32)) + axis).toNatClampNeg)) + (fr (((1 : Int32) * (3 : Int32)) + axis).toNatClampNeg)) (2 : Int32)) = f_X3_vote fr ff axis; unfold f_X3_vote; rw [if_neg c_3]; rw [if_neg c_4]; rw [if_neg c_16]; rw [if_pos c_22]; try rfl)
        · refine lv_iload_n hx hb dX3_vote_53 rfl (lv_at hl 1 rfl) ?_
          refine lv_aload_n hx hb dX3_vote_54 rfl (lv_at hl 2 rfl) ?_
          refine va_get (D := D) hx hb hts hiX3 hown hK.1 hP 1 rfl rfl 0 (by decide) (hts (.fieldLink RX3 9 "FencePilot$Sensors" "row" "[I") (by decide +kernel)) (fun _ h9 => h9) rfl dX3_vote_55 ?_
          refine lv_iload_n hx hb dX3_vote_58 rfl (lv_at hl 0 rfl) ?_
          refine lv_iconst (v := 3) hx hb dX3_vote_59 (by decide) ?_
          refine lv_imul hx hb dX3_vote_60 ?_
          refine lv_iload_n hx hb dX3_vote_61 rfl (lv_at hl 3 rfl) ?_
          refine lv_iadd hx hb dX3_vote_62 ?_
          refine va_iald hx hb hK.1 hP 0 0 rfl rfl (by first | exact kk_Lix' (kk_Lda hax (by decide) (j := 0) rfl (by decide) (by decide)) (by decide) | exact kk_Lix' (kk_Lda hax (by decide) (j := 3) rfl (by decide) (by decide)) (by decide) | exact kk_Lix' (kk_Lda hax (by decide) (j := 6) rfl (by decide) (by decide)) (by decide)) dX3_vote_63 ?_
          refine lv_iadd hx hb dX3_vote_64 ?_
          refine lv_istore_n (lv' := [(2, .int ((((0 : Int32) + (fr (((0 : Int32) * (3 : Int32)) + axis).toNatClampNeg)) + (fr (((1 : Int32) * (3 : Int32)) + axis).toNatClampNeg)) + (fr (((2 : Int32) * (3 : Int32)) + axis).toNatClampNeg))), (3, .int (2 : Int32)), (0, .ref q0), (1, .int axis)]) hx hb dX3_vote_65 rfl hl (by decide) rfl (fun ls hl => ?_)
          refine lv_iinc (v := (3 : Int32)) (lv' := [(3, .int (3 : Int32)), (2, .int ((((0 : Int32) + (fr (((0 : Int32) * (3 : Int32)) + axis).toNatClampNeg)) + (fr (((1 : Int32) * (3 : Int32)) + axis).toNatClampNeg)) + (fr (((2 : Int32) * (3 : Int32)) + axis).toNatClampNeg))), (0, .ref q0), (1, .int axis)]) hx hb dX3_vote_66 hl (k := 1) rfl (by first | rfl | decide) (by decide) rfl (fun ls hl => ?_)
          refine lv_goto (tgt := 39) hx hb dX3_vote_69 (by decide) ?_
          refine lv_iload_n hx hb dX3_vote_39 rfl (lv_at hl 0 rfl) ?_
          refine lv_iconst (v := 3) hx hb dX3_vote_40 (by decide) ?_
          refine lv_icmp_ge (tgt := 72) hx hb dX3_vote_41 (by decide) (fun _ => ?_) (fun z => absurd (by decide) z)
          refine lv_iload_n hx hb dX3_vote_72 rfl (lv_at hl 1 rfl) ?_
          refine lv_iconst (v := 2) hx hb dX3_vote_73 (by decide) ?_
          refine kk_cSi (wc := []) (wr := [(q1, .inl (cI, 9, .inl fr)), (q0, .inr (3, [.ref q1, .ref q2])), (q2, .inl (cZ, 3, .inl ff))]) ⟨hx, hb, hml, hown, hts⟩ hK hP hD hS hA [] [0, 1, 2] (k_J9_floorDiv_7cf53 l D cI cZ  H.size ((((0 : Int32) + (fr (((0 : Int32) * (3 : Int32)) + axis).toNatClampNeg)) + (fr (((1 : Int32) * (3 : Int32)) + axis).toNatClampNeg)) + (fr (((2 : Int32) * (3 : Int32)) + axis).toNatClampNeg)) (2 : Int32) (by decide)) (va_cwS 2 hts gX3_vote_J9_floorDiv_7cf53 rfl rfl rfl (by decide +kernel) ⟨(Nat.le_of_ble_eq_true rfl), (Nat.le_of_ble_eq_true rfl)⟩) rfl rfl (by decide) (by decide) (by decide) rfl hl.1 rfl (Nat.le_of_ble_eq_true rfl) dX3_vote_74 ⟨(Nat.le_of_ble_eq_true rfl), (Nat.le_of_ble_eq_true rfl)⟩ (fun r_25 u H locs hw_26 hP hD hS => ?_)
          have hw_26 : (f_J9_floorDiv_7cf53 ((((0 : Int32) + (fr (((0 : Int32) * (3 : Int32)) + axis).toNatClampNeg)) + (fr (((1 : Int32) * (3 : Int32)) + axis).toNatClampNeg)) + (fr (((2 : Int32) * (3 : Int32)) + axis).toNatClampNeg)) (2 : Int32)) = r_25 := (hw_26 : r_25 = (f_J9_floorDiv_7cf53 ((((0 : Int32) + (fr (((0 : Int32) * (3 : Int32)) + axis).toNatClampNeg)) + (fr (((1 : Int32) * (3 : Int32)) + axis).toNatClampNeg)) + (fr (((2 : Int32) * (3 : Int32)) + axis).toNatClampNeg)) (2 : Int32))).symm
          subst hw_26
          have hP : va_P D vwCl [(q1, .inl (cI, 9, .inl fr)), (q0, .inr (3, [.ref q1, .ref q2])), (q2, .inl (cZ, 3, .inl ff))] H := hP
          have hD : va_D A [(q1, .inl (cI, 9, .inl fr)), (q0, .inr (3, [.ref q1, .ref q2])), (q2, .inl (cZ, 3, .inl ff))] := hD
          exact kk_ri () hx hb hr hlk dX3_vote_77 hS (hP.sub [1, 0, 2] rfl) (hD.sub [1, 0, 2] (by decide) rfl) (by show (f_J9_floorDiv_7cf53 ((((0 : Int32) + (fr (((0 : Int32) * (3 : Int32)) + axis).toNatClampNeg)) + (fr (((1 : Int32) * (3 : Int32)) + axis).toNatClampNeg)) + (fr (((2 : Int32) * (3 : Int32)) + axis).toNatClampNeg)) (2 : Int32)) = f_X3_vote fr ff axis; unfold f_X3_vote; rw [if_neg c_3]; rw [if_neg c_4]; rw [if_neg c_16]; rw [if_neg c_22]; try rfl)
  · refine lv_aload_n hx hb dX3_vote_8 rfl (lv_at hl 0 rfl) ?_
    refine va_get (D := D) hx hb hts hiX3 hown hK.1 hP 1 rfl rfl 0 (by decide) (hts (.fieldLink RX3 9 "FencePilot$Sensors" "row" "[I") (by decide +kernel)) (fun _ h9 => h9) rfl dX3_vote_9 ?_
    refine lv_iload_n hx hb dX3_vote_12 rfl (lv_at hl 1 rfl) ?_
    refine va_iald hx hb hK.1 hP 0 0 rfl rfl (kk_Lix' hax (by decide)) dX3_vote_13 ?_
    refine lv_aload_n hx hb dX3_vote_14 rfl (lv_at hl 0 rfl) ?_
    refine va_get (D := D) hx hb hts hiX3 hown hK.1 hP 1 rfl rfl 0 (by decide) (hts (.fieldLink RX3 9 "FencePilot$Sensors" "row" "[I") (by decide +kernel)) (fun _ h9 => h9) rfl dX3_vote_15 ?_
    refine lv_iconst (v := 3) hx hb dX3_vote_18 (by decide) ?_
    refine lv_iload_n hx hb dX3_vote_19 rfl (lv_at hl 1 rfl) ?_
    refine lv_iadd hx hb dX3_vote_20 ?_
    refine va_iald hx hb hK.1 hP 0 0 rfl rfl (kk_Lix' (kk_Lda hax (by decide) (j := 3) rfl (by decide) (by decide)) (by decide)) dX3_vote_21 ?_
    refine lv_aload_n hx hb dX3_vote_22 rfl (lv_at hl 0 rfl) ?_
    refine va_get (D := D) hx hb hts hiX3 hown hK.1 hP 1 rfl rfl 0 (by decide) (hts (.fieldLink RX3 9 "FencePilot$Sensors" "row" "[I") (by decide +kernel)) (fun _ h9 => h9) rfl dX3_vote_23 ?_
    refine lv_bipush (v := 6) hx hb dX3_vote_26 (by decide) ?_
    refine lv_iload_n hx hb dX3_vote_28 rfl (lv_at hl 1 rfl) ?_
    refine lv_iadd hx hb dX3_vote_29 ?_
    refine va_iald hx hb hK.1 hP 0 0 rfl rfl (kk_Lix' (kk_Lda hax (by decide) (j := 6) rfl (by decide) (by decide)) (by decide)) dX3_vote_30 ?_
    refine kk_cSi (wc := []) (wr := [(q1, .inl (cI, 9, .inl fr)), (q0, .inr (3, [.ref q1, .ref q2])), (q2, .inl (cZ, 3, .inl ff))]) ⟨hx, hb, hml, hown, hts⟩ hK hP hD hS hA [] [0, 1, 2] (k_X3_middle l D cI cZ  H.size (fr axis.toNatClampNeg) (fr ((3 : Int32) + axis).toNatClampNeg) (fr ((6 : Int32) + axis).toNatClampNeg)) (va_cwS 3 hts gX3_vote_X3_middle rfl rfl rfl (by decide +kernel) ⟨(Nat.le_of_ble_eq_true rfl), (Nat.le_of_ble_eq_true rfl)⟩) rfl rfl (by decide) (by decide) (by decide) rfl hl.1 rfl (Nat.le_of_ble_eq_true rfl) dX3_vote_31 ⟨(Nat.le_of_ble_eq_true rfl), (Nat.le_of_ble_eq_true rfl)⟩ (fun r_27 u H locs hw_28 hP hD hS => ?_)
    have hw_28 : (f_X3_middle (fr axis.toNatClampNeg) (fr ((3 : Int32) + axis).toNatClampNeg) (fr ((6 : Int32) + axis).toNatClampNeg)) = r_27 := (hw_28 : r_27 = (f_X3_middle (fr axis.toNatClampNeg) (fr ((3 : Int32) + axis).toNatClampNeg) (fr ((6 : Int32) + axis).toNatClampNeg))).symm
    subst hw_28
    have hP : va_P D vwCl [(q1, .inl (cI, 9, .inl fr)), (q0, .inr (3, [.ref q1, .ref q2])), (q2, .inl (cZ, 3, .inl ff))] H := hP
    have hD : va_D A [(q1, .inl (cI, 9, .inl fr)), (q0, .inr (3, [.ref q1, .ref q2])), (q2, .inl (cZ, 3, .inl ff))] := hD
    exact kk_ri () hx hb hr hlk dX3_vote_34 hS (hP.sub [1, 0, 2] rfl) (hD.sub [1, 0, 2] (by decide) rfl) (by show (f_X3_middle (fr axis.toNatClampNeg) (fr ((3 : Int32) + axis).toNatClampNeg) (fr ((6 : Int32) + axis).toNatClampNeg)) = f_X3_vote fr ff axis; unfold f_X3_vote; rw [if_pos c_3]; try rfl)
