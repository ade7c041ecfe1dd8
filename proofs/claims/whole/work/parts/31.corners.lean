def f_X0_isFull (cn : Int32) : Int32 := (if cn < (8 : Int32) then (0 : Int32) else (1 : Int32))
set_option maxHeartbeats 4000000 in
set_option maxRecDepth 100000 in
theorem k_X0_isFull (l : Launch) (D : va_G) (cI cZ : ClassId) (q0 : Nat) (q1 : Nat) (q2 : Nat) (sz : Nat) (cn : Int32)   : kk_Mi l D cI cZ yX0_isFull wsX0_isFull ({ frames := 0, cells := 0, slots := 0, locals := 0 } : Room) [.ref q0] sz [(q0, .inr (0, [.ref q1, .ref q2, .int cn]))] (fun (r : Int32) (_ : Unit) => r = f_X0_isFull cn) (fun _ => [(q0, .inr (0, [.ref q1, .ref q2, .int cn]))]) 0 0 := by
  refine kk_enti (cc := cX0_isFull) (maxL := 1) (ret := (some .boolean)) (by decide +kernel) rfl (Nat.le_of_ble_eq_true rfl) (fun p e s m args below meth c A ls hX hP hD hS hl => ?_)
  obtain ⟨hx, hb, hml, hown, hts, hr, hlk, hnm, hK, hA⟩ := hX
  have hown : s.vm.findClass RX0 = some m.cls := hown
  have hiX0 : ∀ w ∈ wsX00, w ∈ wsX0_isFull := by decide +kernel
  have hl : lv_has ls 1 [(0, .ref q0)] := hl
  refine lv_aload_n hx hb dX0_isFull_0 rfl (lv_at hl 0 rfl) ?_
  refine va_get (D := D) hx hb hts hiX0 hown hK.1 hP 0 rfl rfl 2 (by decide) (hts (.fieldLink RX0 18 "FencePilot$Corners" "count" "I") (by decide +kernel)) (fun _ h9 => h9) rfl dX0_isFull_1 ?_
  refine lv_bipush (v := 8) hx hb dX0_isFull_4 (by decide) ?_
  refine lv_icmp_lt (tgt := 13) hx hb dX0_isFull_6 (by decide) (fun c_1 => ?_) (fun c_1 => ?_)
  · refine lv_iconst (v := 0) hx hb dX0_isFull_13 (by decide) ?_
    exact kk_rz () hx hb hr hlk dX0_isFull_14 hS (hP.sub [0] rfl) (hD.sub [0] (by decide) rfl) rfl (by show (0 : Int32) = f_X0_isFull cn; unfold f_X0_isFull; rw [if_pos c_1]; try rfl)
  · refine lv_iconst (v := 1) hx hb dX0_isFull_9 (by decide) ?_
    refine lv_goto (tgt := 14) hx hb dX0_isFull_10 (by decide) ?_
    exact kk_rz () hx hb hr hlk dX0_isFull_14 hS (hP.sub [0] rfl) (hD.sub [0] (by decide) rfl) rfl (by show (1 : Int32) = f_X0_isFull cn; unfold f_X0_isFull; rw [if_neg c_1]; try rfl)
theorem kk_notFull {cn : Int32} (h : f_X0_isFull cn = 0) (hc : kk_L cn 8) : kk_L cn 7 := by
  unfold f_X0_isFull at h
  split at h
  · rename_i h1
    obtain ⟨a, b⟩ := hc
    rw [Int32.lt_iff_toInt_lt, show (8 : Int32).toInt = 8 from rfl] at h1
    exact ⟨a, by omega⟩
  · exact absurd h (by decide)
def f_X0_areEnough (cn : Int32) : Int32 := (if cn < (3 : Int32) then (0 : Int32) else (1 : Int32))
set_option maxHeartbeats 4000000 in
set_option maxRecDepth 100000 in
theorem k_X0_areEnough (l : Launch) (D : va_G) (cI cZ : ClassId) (q0 : Nat) (q1 : Nat) (q2 : Nat) (sz : Nat) (cn : Int32)   : kk_Mi l D cI cZ yX0_areEnough wsX0_areEnough ({ frames := 0, cells := 0, slots := 0, locals := 0 } : Room) [.ref q0] sz [(q0, .inr (0, [.ref q1, .ref q2, .int cn]))] (fun (r : Int32) (_ : Unit) => r = f_X0_areEnough cn) (fun _ => [(q0, .inr (0, [.ref q1, .ref q2, .int cn]))]) 0 0 := by
  refine kk_enti (cc := cX0_areEnough) (maxL := 1) (ret := (some .boolean)) (by decide +kernel) rfl (Nat.le_of_ble_eq_true rfl) (fun p e s m args below meth c A ls hX hP hD hS hl => ?_)
  obtain ⟨hx, hb, hml, hown, hts, hr, hlk, hnm, hK, hA⟩ := hX
  have hown : s.vm.findClass RX0 = some m.cls := hown
  have hiX0 : ∀ w ∈ wsX00, w ∈ wsX0_areEnough := by decide +kernel
  have hl : lv_has ls 1 [(0, .ref q0)] := hl
  refine lv_aload_n hx hb dX0_areEnough_0 rfl (lv_at hl 0 rfl) ?_
  refine va_get (D := D) hx hb hts hiX0 hown hK.1 hP 0 rfl rfl 2 (by decide) (hts (.fieldLink RX0 18 "FencePilot$Corners" "count" "I") (by decide +kernel)) (fun _ h9 => h9) rfl dX0_areEnough_1 ?_
  refine lv_iconst (v := 3) hx hb dX0_areEnough_4 (by decide) ?_
  refine lv_icmp_lt (tgt := 12) hx hb dX0_areEnough_5 (by decide) (fun c_1 => ?_) (fun c_1 => ?_)
  · refine lv_iconst (v := 0) hx hb dX0_areEnough_12 (by decide) ?_
    exact kk_rz () hx hb hr hlk dX0_areEnough_13 hS (hP.sub [0] rfl) (hD.sub [0] (by decide) rfl) rfl (by show (0 : Int32) = f_X0_areEnough cn; unfold f_X0_areEnough; rw [if_pos c_1]; try rfl)
  · refine lv_iconst (v := 1) hx hb dX0_areEnough_8 (by decide) ?_
    refine lv_goto (tgt := 13) hx hb dX0_areEnough_9 (by decide) ?_
    exact kk_rz () hx hb hr hlk dX0_areEnough_13 hS (hP.sub [0] rfl) (hD.sub [0] (by decide) rfl) rfl (by show (1 : Int32) = f_X0_areEnough cn; unfold f_X0_areEnough; rw [if_neg c_1]; try rfl)
def f_X0_add (cn : Int32) (fx : Nat → Int32) (fy : Nat → Int32) (x : Int32) (y : Int32) : (Nat → Int32) × (Nat → Int32) × Int32 := (if (f_X0_isFull cn) = (0 : Int32) then ((upd fx cn.toNatClampNeg x), (upd fy cn.toNatClampNeg y), (cn + (1 : Int32))) else (fx, fy, cn))
set_option maxHeartbeats 4000000 in
set_option maxRecDepth 100000 in
theorem k_X0_add (l : Launch) (D : va_G) (cI cZ : ClassId) (q0 : Nat) (q1 : Nat) (q2 : Nat) (sz : Nat) (cn : Int32) (fx : Nat → Int32) (fy : Nat → Int32) (x : Int32) (y : Int32) (hcn : kk_L cn 8) : kk_Mv l D cI cZ yX0_add wsX0_add ({ frames := 1, cells := 0, slots := 0, locals := 20 } : Room) [.ref q0, .int x, .int y] sz [(q0, .inr (0, [.ref q1, .ref q2, .int cn])), (q1, .inl (cI, 8, .inl fx)), (q2, .inl (cI, 8, .inl fy))] (fun (u : (Nat → Int32) × (Nat → Int32) × Int32) => u = f_X0_add cn fx fy x y) (fun u => [(q0, .inr (0, [.ref q1, .ref q2, .int u.2.2])), (q1, .inl (cI, 8, .inl u.1)), (q2, .inl (cI, 8, .inl u.2.1))]) 0 0 := by
  refine kk_entv (cc := cX0_add) (maxL := 3) (ret := none) (by decide +kernel) rfl (Nat.le_of_ble_eq_true rfl) (fun p e s m args below meth c A ls hX hP hD hS hl => ?_)
  obtain ⟨hx, hb, hml, hown, hts, hr, hlk, hnm, hK, hA⟩ := hX
  have hown : s.vm.findClass RX0 = some m.cls := hown
  have hiX0 : ∀ w ∈ wsX00, w ∈ wsX0_add := by decide +kernel
  have hl : lv_has ls 3 [(0, .ref q0), (1, .int x), (2, .int y)] := hl
  refine lv_aload_n hx hb dX0_add_0 rfl (lv_at hl 0 rfl) ?_
  refine kk_cVi (wc := [(q0, .inr (0, [.ref q1, .ref q2, .int cn]))]) (wr := [(q1, .inl (cI, 8, .inl fx)), (q2, .inl (cI, 8, .inl fy))]) ⟨hx, hb, hml, hown, hts⟩ hK hP hD hS hA [0] [1, 2] (k_X0_isFull l D cI cZ q0 q1 q2 s.heap.size cn) (cwV 0 hts gX0_add_X0_isFull rfl rfl rfl (by decide +kernel) ⟨(Nat.le_of_ble_eq_true rfl), (Nat.le_of_ble_eq_true rfl)⟩) rfl rfl (by decide) (by decide) (by decide) 0 0 rfl rfl rfl rfl hl.1 rfl (Nat.le_of_ble_eq_true rfl) dX0_add_1 ⟨(Nat.le_of_ble_eq_true rfl), (Nat.le_of_ble_eq_true rfl)⟩ (fun r_1 u H locs hw_2 hP hD hS => ?_)
  have hw_2 : (f_X0_isFull cn) = r_1 := (hw_2 : r_1 = (f_X0_isFull cn)).symm
  subst hw_2
  have hP : va_P D vwCl [(q1, .inl (cI, 8, .inl fx)), (q2, .inl (cI, 8, .inl fy)), (q0, .inr (0, [.ref q1, .ref q2, .int cn]))] H := hP
  have hD : va_D A [(q1, .inl (cI, 8, .inl fx)), (q2, .inl (cI, 8, .inl fy)), (q0, .inr (0, [.ref q1, .ref q2, .int cn]))] := hD
  refine lv_if_ne (tgt := 37) hx hb dX0_add_4 (by decide) (fun c_3 => ?_) (fun c_3 => ?_)
  · exact kk_rv (fx, fy, cn) hx hb hr hlk dX0_add_37 hS (hP.sub [2, 0, 1] rfl) (hD.sub [2, 0, 1] (by decide) rfl) (by show (fx, fy, cn) = f_X0_add cn fx fy x y; unfold f_X0_add; rw [if_neg c_3]; try rfl)
  · refine lv_aload_n hx hb dX0_add_7 rfl (lv_at hl 0 rfl) ?_
    refine va_get (D := D) hx hb hts hiX0 hown hK.1 hP 2 rfl rfl 0 (by decide) (hts (.fieldLink RX0 9 "FencePilot$Corners" "xs" "[I") (by decide +kernel)) (fun _ h9 => h9) rfl dX0_add_8 ?_
    refine lv_aload_n hx hb dX0_add_11 rfl (lv_at hl 0 rfl) ?_
    refine va_get (D := D) hx hb hts hiX0 hown hK.1 hP 2 rfl rfl 2 (by decide) (hts (.fieldLink RX0 18 "FencePilot$Corners" "count" "I") (by decide +kernel)) (fun _ h9 => h9) rfl dX0_add_12 ?_
    refine lv_iload_n hx hb dX0_add_15 rfl (lv_at hl 1 rfl) ?_
    refine va_iast hx hb hK.1 hP hD hS 0 0 rfl rfl (kk_Lix (kk_notFull c_3 hcn)) dX0_add_16 (fun H locs hP hD hS => ?_)
    have hP : va_P D vwCl [(q1, .inl (cI, 8, .inl (upd fx cn.toNatClampNeg x))), (q2, .inl (cI, 8, .inl fy)), (q0, .inr (0, [.ref q1, .ref q2, .int cn]))] H := hP
    have hD : va_D A [(q1, .inl (cI, 8, .inl (upd fx cn.toNatClampNeg x))), (q2, .inl (cI, 8, .inl fy)), (q0, .inr (0, [.ref q1, .ref q2, .int cn]))] := hD
    refine lv_aload_n hx hb dX0_add_17 rfl (lv_at hl 0 rfl) ?_
    refine va_get (D := D) hx hb hts hiX0 hown hK.1 hP 2 rfl rfl 1 (by decide) (hts (.fieldLink RX0 15 "FencePilot$Corners" "ys" "[I") (by decide +kernel)) (fun _ h9 => h9) rfl dX0_add_18 ?_
    refine lv_aload_n hx hb dX0_add_21 rfl (lv_at hl 0 rfl) ?_
    refine va_get (D := D) hx hb hts hiX0 hown hK.1 hP 2 rfl rfl 2 (by decide) (hts (.fieldLink RX0 18 "FencePilot$Corners" "count" "I") (by decide +kernel)) (fun _ h9 => h9) rfl dX0_add_22 ?_
    refine lv_iload_n hx hb dX0_add_25 rfl (lv_at hl 2 rfl) ?_
    refine va_iast hx hb hK.1 hP hD hS 1 0 rfl rfl (kk_Lix (kk_notFull c_3 hcn)) dX0_add_26 (fun H locs hP hD hS => ?_)
    have hP : va_P D vwCl [(q1, .inl (cI, 8, .inl (upd fx cn.toNatClampNeg x))), (q2, .inl (cI, 8, .inl (upd fy cn.toNatClampNeg y))), (q0, .inr (0, [.ref q1, .ref q2, .int cn]))] H := hP
    have hD : va_D A [(q1, .inl (cI, 8, .inl (upd fx cn.toNatClampNeg x))), (q2, .inl (cI, 8, .inl (upd fy cn.toNatClampNeg y))), (q0, .inr (0, [.ref q1, .ref q2, .int cn]))] := hD
    refine lv_aload_n hx hb dX0_add_27 rfl (lv_at hl 0 rfl) ?_
    refine lv_dup hx hb dX0_add_28 rfl ?_
    refine va_get (D := D) hx hb hts hiX0 hown hK.1 hP 2 rfl rfl 2 (by decide) (hts (.fieldLink RX0 18 "FencePilot$Corners" "count" "I") (by decide +kernel)) (fun _ h9 => h9) rfl dX0_add_29 ?_
    refine lv_iconst (v := 1) hx hb dX0_add_32 (by decide) ?_
    refine lv_iadd hx hb dX0_add_33 ?_
    refine va_put (D := D) (ci := 0) (v := .int (cn + (1 : Int32))) (ty := .int) (C := RX0) (T := TX0) (N := 3) hx hb hts hiX0 tyX0 tyX0_ok nmX0 hown hK.1 hP hD hS 2 rfl rfl 2 (by decide) (hts (.fieldLink RX0 18 "FencePilot$Corners" "count" "I") (by decide +kernel)) (fun _ h9 => h9) rfl (by decide +kernel) rfl rfl (Nat.le_of_ble_eq_true rfl) dX0_add_34 (fun H locs hP hD hS => ?_)
    have hP : va_P D vwCl [(q1, .inl (cI, 8, .inl (upd fx cn.toNatClampNeg x))), (q2, .inl (cI, 8, .inl (upd fy cn.toNatClampNeg y))), (q0, .inr (0, [.ref q1, .ref q2, .int (cn + (1 : Int32))]))] H := hP
    have hD : va_D A [(q1, .inl (cI, 8, .inl (upd fx cn.toNatClampNeg x))), (q2, .inl (cI, 8, .inl (upd fy cn.toNatClampNeg y))), (q0, .inr (0, [.ref q1, .ref q2, .int (cn + (1 : Int32))]))] := hD
    exact kk_rv ((upd fx cn.toNatClampNeg x), (upd fy cn.toNatClampNeg y), (cn + (1 : Int32))) hx hb hr hlk dX0_add_37 hS (hP.sub [2, 0, 1] rfl) (hD.sub [2, 0, 1] (by decide) rfl) (by show ((upd fx cn.toNatClampNeg x), (upd fy cn.toNatClampNeg y), (cn + (1 : Int32))) = f_X0_add cn fx fy x y; unfold f_X0_add; rw [if_pos c_3]; try rfl)
def f_X0_clear (cn : Int32) : Int32 := (0 : Int32)
set_option maxHeartbeats 4000000 in
set_option maxRecDepth 100000 in
theorem k_X0_clear (l : Launch) (D : va_G) (cI cZ : ClassId) (q0 : Nat) (q1 : Nat) (q2 : Nat) (sz : Nat) (cn : Int32)   : kk_Mv l D cI cZ yX0_clear wsX0_clear ({ frames := 0, cells := 0, slots := 0, locals := 0 } : Room) [.ref q0] sz [(q0, .inr (0, [.ref q1, .ref q2, .int cn]))] (fun (u : Int32) => u = f_X0_clear cn) (fun u => [(q0, .inr (0, [.ref q1, .ref q2, .int u]))]) 0 0 := by
  refine kk_entv (cc := cX0_clear) (maxL := 1) (ret := none) (by decide +kernel) rfl (Nat.le_of_ble_eq_true rfl) (fun p e s m args below meth c A ls hX hP hD hS hl => ?_)
  obtain ⟨hx, hb, hml, hown, hts, hr, hlk, hnm, hK, hA⟩ := hX
  have hown : s.vm.findClass RX0 = some m.cls := hown
  have hiX0 : ∀ w ∈ wsX00, w ∈ wsX0_clear := by decide +kernel
  have hl : lv_has ls 1 [(0, .ref q0)] := hl
  refine lv_aload_n hx hb dX0_clear_0 rfl (lv_at hl 0 rfl) ?_
  refine lv_iconst (v := 0) hx hb dX0_clear_1 (by decide) ?_
  refine va_put (D := D) (ci := 0) (v := .int (0 : Int32)) (ty := .int) (C := RX0) (T := TX0) (N := 3) hx hb hts hiX0 tyX0 tyX0_ok nmX0 hown hK.1 hP hD hS 0 rfl rfl 2 (by decide) (hts (.fieldLink RX0 18 "FencePilot$Corners" "count" "I") (by decide +kernel)) (fun _ h9 => h9) rfl (by decide +kernel) rfl rfl (Nat.le_of_ble_eq_true rfl) dX0_clear_2 (fun H locs hP hD hS => ?_)
  have hP : va_P D vwCl [(q0, .inr (0, [.ref q1, .ref q2, .int (0 : Int32)]))] H := hP
  have hD : va_D A [(q0, .inr (0, [.ref q1, .ref q2, .int (0 : Int32)]))] := hD
  exact kk_rv (0 : Int32) hx hb hr hlk dX0_clear_5 hS (hP.sub [0] rfl) (hD.sub [0] (by decide) rfl) (by show (0 : Int32) = f_X0_clear cn; unfold f_X0_clear; rfl)
def g_X0_copyFrom_lp (cn : Int32) (fx : Nat → Int32) (fy : Nat → Int32) (gn : Int32) (gx : Nat → Int32) (gy : Nat → Int32) : Nat → Int32 → (Nat → Int32) → (Nat → Int32) → (Nat → Int32) × (Nat → Int32) × Int32
  | 0, _, _, _ => ((fun _ => 0), (fun _ => 0), 0)
  | fuel + 1, ix, hx2, hy2 => (if gn ≤ ix then (hx2, hy2, gn) else (g_X0_copyFrom_lp cn fx fy gn gx gy fuel (ix + 1) (upd hx2 ix.toNatClampNeg (gx ix.toNatClampNeg)) (upd hy2 ix.toNatClampNeg (gy ix.toNatClampNeg))))
def f_X0_copyFrom (cn : Int32) (fx : Nat → Int32) (fy : Nat → Int32) (gn : Int32) (gx : Nat → Int32) (gy : Nat → Int32) : (Nat → Int32) × (Nat → Int32) × Int32 := (g_X0_copyFrom_lp cn fx fy gn gx gy 9 (0 : Int32) fx fy)
set_option maxHeartbeats 4000000 in
set_option maxRecDepth 100000 in
theorem lp_X0_copyFrom_lp (l : Launch) (D : va_G) (cI cZ : ClassId) (q0 : Nat) (q1 : Nat) (q2 : Nat) (r0 : Nat) (r1 : Nat) (r2 : Nat) (cn : Int32) (fx : Nat → Int32) (fy : Nat → Int32) (gn : Int32) (gx : Nat → Int32) (gy : Nat → Int32) (hgn : kk_L gn 8)  {p : Program} {e : Env} {s : State} {m : MethodId} {args : Array Value} {below : List Frame} {meth : Method} {c : Code} {A : Nat → Prop} (hX : kk_X p s m args meth c cX0_copyFrom 3 none yX0_copyFrom wsX0_copyFrom A D cI cZ) (FIN : (Nat → Int32) × (Nat → Int32) × Int32)  :
    ∀ (fuel : Nat) (ix : Int32) (hx2 : Nat → Int32) (hy2 : Nat → Int32) (H : Heap) (locs : List Loc) (ls : Array Slot), kk_I fuel ix gn → FIN = g_X0_copyFrom_lp cn fx fy gn gx gy fuel ix hx2 hy2 → va_P D vwCl [(q0, .inr (0, [.ref q1, .ref q2, .int cn])), (q1, .inl (cI, 8, .inl hx2)), (q2, .inl (cI, 8, .inl hy2)), (r0, .inr (0, [.ref r1, .ref r2, .int gn])), (r1, .inl (cI, 8, .inl gx)), (r2, .inl (cI, 8, .inl gy))] H → va_D A [(q0, .inr (0, [.ref q1, .ref q2, .int cn])), (q1, .inl (cI, 8, .inl hx2)), (q2, .inl (cI, 8, .inl hy2)), (r0, .inr (0, [.ref r1, .ref r2, .int gn])), (r1, .inl (cI, 8, .inl gx)), (r2, .inl (cI, 8, .inl gy))] → va_S A s.heap H locs → lv_has ls 3 [(0, .ref q0), (1, .ref r0), (2, .int ix)] → W p l e ({ frames := 0, cells := 0, slots := 0, locals := 0 } : Room) s m args below meth c H locs 0 0 (MQ below (va_Qv (fun (u : (Nat → Int32) × (Nat → Int32) × Int32) => u = FIN) (fun u t => kk_B D A [(q0, .inr (0, [.ref q1, .ref q2, .int u.2.2])), (q1, .inl (cI, 8, .inl u.1)), (q2, .inl (cI, 8, .inl u.2.1)), (r0, .inr (0, [.ref r1, .ref r2, .int gn])), (r1, .inl (cI, 8, .inl gx)), (r2, .inl (cI, 8, .inl gy))] t) A) args s 0 0 A) (F0 m 2 ls []) := by
  have hX0 := hX
  obtain ⟨hx, hb, hml, hown, hts, hr, hlk, hnm, hK, hA⟩ := hX
  have hown : s.vm.findClass RX0 = some m.cls := hown
  have hiX0 : ∀ w ∈ wsX00, w ∈ wsX0_copyFrom := by decide +kernel
  intro fuel
  induction fuel with
  | zero =>
    intro ix hx2 hy2 H locs ls hI
    exact absurd hI kk_I0
  | succ fuel ih =>
    intro ix hx2 hy2 H locs ls hI hF hP hD hS hl
    refine lv_iload_n hx hb dX0_copyFrom_2 rfl (lv_at hl 2 rfl) ?_
    refine lv_aload_n hx hb dX0_copyFrom_3 rfl (lv_at hl 1 rfl) ?_
    refine va_get (D := D) hx hb hts hiX0 hown hK.1 hP 3 rfl rfl 2 (by decide) (hts (.fieldLink RX0 18 "FencePilot$Corners" "count" "I") (by decide +kernel)) (fun _ h9 => h9) rfl dX0_copyFrom_4 ?_
    refine lv_icmp_ge (tgt := 40) hx hb dX0_copyFrom_7 (by decide) (fun c_1001 => ?_) (fun c_1001 => ?_)
    · refine lv_aload_n hx hb dX0_copyFrom_40 rfl (lv_at hl 0 rfl) ?_
      refine lv_aload_n hx hb dX0_copyFrom_41 rfl (lv_at hl 1 rfl) ?_
      refine va_get (D := D) hx hb hts hiX0 hown hK.1 hP 3 rfl rfl 2 (by decide) (hts (.fieldLink RX0 18 "FencePilot$Corners" "count" "I") (by decide +kernel)) (fun _ h9 => h9) rfl dX0_copyFrom_42 ?_
      refine va_put (D := D) (ci := 0) (v := .int gn) (ty := .int) (C := RX0) (T := TX0) (N := 3) hx hb hts hiX0 tyX0 tyX0_ok nmX0 hown hK.1 hP hD hS 0 rfl rfl 2 (by decide) (hts (.fieldLink RX0 18 "FencePilot$Corners" "count" "I") (by decide +kernel)) (fun _ h9 => h9) rfl (by decide +kernel) rfl rfl (Nat.le_of_ble_eq_true rfl) dX0_copyFrom_45 (fun H locs hP hD hS => ?_)
      have hP : va_P D vwCl [(q0, .inr (0, [.ref q1, .ref q2, .int gn])), (q1, .inl (cI, 8, .inl hx2)), (q2, .inl (cI, 8, .inl hy2)), (r0, .inr (0, [.ref r1, .ref r2, .int gn])), (r1, .inl (cI, 8, .inl gx)), (r2, .inl (cI, 8, .inl gy))] H := hP
      have hD : va_D A [(q0, .inr (0, [.ref q1, .ref q2, .int gn])), (q1, .inl (cI, 8, .inl hx2)), (q2, .inl (cI, 8, .inl hy2)), (r0, .inr (0, [.ref r1, .ref r2, .int gn])), (r1, .inl (cI, 8, .inl gx)), (r2, .inl (cI, 8, .inl gy))] := hD
      exact kk_rv (hx2, hy2, gn) hx hb hr hlk dX0_copyFrom_48 hS (hP.sub [0, 1, 2, 3, 4, 5] rfl) (hD.sub [0, 1, 2, 3, 4, 5] (by decide) rfl) (by show (hx2, hy2, gn) = FIN; rw [hF, g_X0_copyFrom_lp]; rw [if_pos c_1001]; try rfl)
    · refine lv_aload_n hx hb dX0_copyFrom_10 rfl (lv_at hl 0 rfl) ?_
      refine va_get (D := D) hx hb hts hiX0 hown hK.1 hP 0 rfl rfl 0 (by decide) (hts (.fieldLink RX0 9 "FencePilot$Corners" "xs" "[I") (by decide +kernel)) (fun _ h9 => h9) rfl dX0_copyFrom_11 ?_
      refine lv_iload_n hx hb dX0_copyFrom_14 rfl (lv_at hl 2 rfl) ?_
      refine lv_aload_n hx hb dX0_copyFrom_15 rfl (lv_at hl 1 rfl) ?_
      refine va_get (D := D) hx hb hts hiX0 hown hK.1 hP 3 rfl rfl 0 (by decide) (hts (.fieldLink RX0 9 "FencePilot$Corners" "xs" "[I") (by decide +kernel)) (fun _ h9 => h9) rfl dX0_copyFrom_16 ?_
      refine lv_iload_n hx hb dX0_copyFrom_19 rfl (lv_at hl 2 rfl) ?_
      refine va_iald hx hb hK.1 hP 4 0 rfl rfl (kk_Iix hI c_1001 hgn.2) dX0_copyFrom_20 ?_
      refine va_iast hx hb hK.1 hP hD hS 1 0 rfl rfl (kk_Iix hI c_1001 hgn.2) dX0_copyFrom_21 (fun H locs hP hD hS => ?_)
      have hP : va_P D vwCl [(q0, .inr (0, [.ref q1, .ref q2, .int cn])), (q1, .inl (cI, 8, .inl (upd hx2 ix.toNatClampNeg (gx ix.toNatClampNeg)))), (q2, .inl (cI, 8, .inl hy2)), (r0, .inr (0, [.ref r1, .ref r2, .int gn])), (r1, .inl (cI, 8, .inl gx)), (r2, .inl (cI, 8, .inl gy))] H := hP
      have hD : va_D A [(q0, .inr (0, [.ref q1, .ref q2, .int cn])), (q1, .inl (cI, 8, .inl (upd hx2 ix.toNatClampNeg (gx ix.toNatClampNeg)))), (q2, .inl (cI, 8, .inl hy2)), (r0, .inr (0, [.ref r1, .ref r2, .int gn])), (r1, .inl (cI, 8, .inl gx)), (r2, .inl (cI, 8, .inl gy))] := hD
      refine lv_aload_n hx hb dX0_copyFrom_22 rfl (lv_at hl 0 rfl) ?_
      refine va_get (D := D) hx hb hts hiX0 hown hK.1 hP 0 rfl rfl 1 (by decide) (hts (.fieldLink RX0 15 "FencePilot$Corners" "ys" "[I") (by decide +kernel)) (fun _ h9 => h9) rfl dX0_copyFrom_23 ?_
      refine lv_iload_n hx hb dX0_copyFrom_26 rfl (lv_at hl 2 rfl) ?_
      refine lv_aload_n hx hb dX0_copyFrom_27 rfl (lv_at hl 1 rfl) ?_
      refine va_get (D := D) hx hb hts hiX0 hown hK.1 hP 3 rfl rfl 1 (by decide) (hts (.fieldLink RX0 15 "FencePilot$Corners" "ys" "[I") (by decide +kernel)) (fun _ h9 => h9) rfl dX0_copyFrom_28 ?_
      refine lv_iload_n hx hb dX0_copyFrom_31 rfl (lv_at hl 2 rfl) ?_
      refine va_iald hx hb hK.1 hP 5 0 rfl rfl (kk_Iix hI c_1001 hgn.2) dX0_copyFrom_32 ?_
      refine va_iast hx hb hK.1 hP hD hS 2 0 rfl rfl (kk_Iix hI c_1001 hgn.2) dX0_copyFrom_33 (fun H locs hP hD hS => ?_)
      have hP : va_P D vwCl [(q0, .inr (0, [.ref q1, .ref q2, .int cn])), (q1, .inl (cI, 8, .inl (upd hx2 ix.toNatClampNeg (gx ix.toNatClampNeg)))), (q2, .inl (cI, 8, .inl (upd hy2 ix.toNatClampNeg (gy ix.toNatClampNeg)))), (r0, .inr (0, [.ref r1, .ref r2, .int gn])), (r1, .inl (cI, 8, .inl gx)), (r2, .inl (cI, 8, .inl gy))] H := hP
      have hD : va_D A [(q0, .inr (0, [.ref q1, .ref q2, .int cn])), (q1, .inl (cI, 8, .inl (upd hx2 ix.toNatClampNeg (gx ix.toNatClampNeg)))), (q2, .inl (cI, 8, .inl (upd hy2 ix.toNatClampNeg (gy ix.toNatClampNeg)))), (r0, .inr (0, [.ref r1, .ref r2, .int gn])), (r1, .inl (cI, 8, .inl gx)), (r2, .inl (cI, 8, .inl gy))] := hD
      refine lv_iinc (v := (ix + 1)) (lv' := [(2, .int (ix + 1)), (0, .ref q0), (1, .ref r0)]) hx hb dX0_copyFrom_34 hl (k := 2) rfl (by first | rfl | decide) (by decide) rfl (fun ls hl => ?_)
      refine lv_goto (tgt := 2) hx hb dX0_copyFrom_37 (by decide) ?_
      exact ih (ix + 1) (upd hx2 ix.toNatClampNeg (gx ix.toNatClampNeg)) (upd hy2 ix.toNatClampNeg (gy ix.toNatClampNeg)) _ _ _ (kk_Iup hI c_1001) (by show FIN = (g_X0_copyFrom_lp cn fx fy gn gx gy fuel (ix + 1) (upd hx2 ix.toNatClampNeg (gx ix.toNatClampNeg)) (upd hy2 ix.toNatClampNeg (gy ix.toNatClampNeg))); rw [hF, g_X0_copyFrom_lp]; rw [if_neg c_1001]; try rfl) (hP.sub [0, 1, 2, 3, 4, 5] rfl) (hD.sub [0, 1, 2, 3, 4, 5] (by decide) rfl) hS (lv_sub hl [1, 2, 0] rfl)
set_option maxHeartbeats 4000000 in
set_option maxRecDepth 100000 in
theorem k_X0_copyFrom (l : Launch) (D : va_G) (cI cZ : ClassId) (q0 : Nat) (q1 : Nat) (q2 : Nat) (r0 : Nat) (r1 : Nat) (r2 : Nat) (sz : Nat) (cn : Int32) (fx : Nat → Int32) (fy : Nat → Int32) (gn : Int32) (gx : Nat → Int32) (gy : Nat → Int32)  (hgn : kk_L gn 8) : kk_Mv l D cI cZ yX0_copyFrom wsX0_copyFrom ({ frames := 0, cells := 0, slots := 0, locals := 0 } : Room) [.ref q0, .ref r0] sz [(q0, .inr (0, [.ref q1, .ref q2, .int cn])), (q1, .inl (cI, 8, .inl fx)), (q2, .inl (cI, 8, .inl fy)), (r0, .inr (0, [.ref r1, .ref r2, .int gn])), (r1, .inl (cI, 8, .inl gx)), (r2, .inl (cI, 8, .inl gy))] (fun (u : (Nat → Int32) × (Nat → Int32) × Int32) => u = f_X0_copyFrom cn fx fy gn gx gy) (fun u => [(q0, .inr (0, [.ref q1, .ref q2, .int u.2.2])), (q1, .inl (cI, 8, .inl u.1)), (q2, .inl (cI, 8, .inl u.2.1)), (r0, .inr (0, [.ref r1, .ref r2, .int gn])), (r1, .inl (cI, 8, .inl gx)), (r2, .inl (cI, 8, .inl gy))]) 0 0 := by
  refine kk_entv (cc := cX0_copyFrom) (maxL := 3) (ret := none) (by decide +kernel) rfl (Nat.le_of_ble_eq_true rfl) (fun p e s m args below meth c A ls hX hP hD hS hl => ?_)
  have hX0 := hX
  obtain ⟨hx, hb, hml, hown, hts, hr, hlk, hnm, hK, hA⟩ := hX
  have hown : s.vm.findClass RX0 = some m.cls := hown
  have hiX0 : ∀ w ∈ wsX00, w ∈ wsX0_copyFrom := by decide +kernel
  have hl : lv_has ls 3 [(0, .ref q0), (1, .ref r0)] := hl
  refine lv_iconst (v := 0) hx hb dX0_copyFrom_0 (by decide) ?_
  refine lv_istore_n (lv' := [(2, .int (0 : Int32)), (0, .ref q0), (1, .ref r0)]) hx hb dX0_copyFrom_1 rfl hl (by decide) rfl (fun ls hl => ?_)
  exact lp_X0_copyFrom_lp l D cI cZ q0 q1 q2 r0 r1 r2 cn fx fy gn gx gy hgn hX0 (f_X0_copyFrom cn fx fy gn gx gy) 9 (0 : Int32) fx fy _ _ _ (kk_Ist 9 hgn.1 (Int.lt_of_le_of_lt hgn.2 (by decide))) (by show f_X0_copyFrom cn fx fy gn gx gy = (g_X0_copyFrom_lp cn fx fy gn gx gy 9 (0 : Int32) fx fy); unfold f_X0_copyFrom; rfl) (hP.sub [0, 1, 2, 3, 4, 5] rfl) (hD.sub [0, 1, 2, 3, 4, 5] (by decide) rfl) hS (lv_sub hl [1, 2, 0] rfl)
def f_X0_after (cn : Int32) (edge : Int32) : Int32 := (if cn ≤ (edge + (1 : Int32)) then (0 : Int32) else (edge + (1 : Int32)))
set_option maxHeartbeats 4000000 in
set_option maxRecDepth 100000 in
theorem k_X0_after (l : Launch) (D : va_G) (cI cZ : ClassId) (q0 : Nat) (q1 : Nat) (q2 : Nat) (sz : Nat) (cn : Int32) (edge : Int32)  : kk_Mi l D cI cZ yX0_after wsX0_after ({ frames := 0, cells := 0, slots := 0, locals := 0 } : Room) [.ref q0, .int edge] sz [(q0, .inr (0, [.ref q1, .ref q2, .int cn]))] (fun (r : Int32) (_ : Unit) => r = f_X0_after cn edge) (fun _ => [(q0, .inr (0, [.ref q1, .ref q2, .int cn]))]) 0 0 := by
  refine kk_enti (cc := cX0_after) (maxL := 2) (ret := (some .int)) (by decide +kernel) rfl (Nat.le_of_ble_eq_true rfl) (fun p e s m args below meth c A ls hX hP hD hS hl => ?_)
  obtain ⟨hx, hb, hml, hown, hts, hr, hlk, hnm, hK, hA⟩ := hX
  have hown : s.vm.findClass RX0 = some m.cls := hown
  have hiX0 : ∀ w ∈ wsX00, w ∈ wsX0_after := by decide +kernel
  have hl : lv_has ls 2 [(0, .ref q0), (1, .int edge)] := hl
  refine lv_iload_n hx hb dX0_after_0 rfl (lv_at hl 1 rfl) ?_
  refine lv_iconst (v := 1) hx hb dX0_after_1 (by decide) ?_
  refine lv_iadd hx hb dX0_after_2 ?_
  refine lv_aload_n hx hb dX0_after_3 rfl (lv_at hl 0 rfl) ?_
  refine va_get (D := D) hx hb hts hiX0 hown hK.1 hP 0 rfl rfl 2 (by decide) (hts (.fieldLink RX0 18 "FencePilot$Corners" "count" "I") (by decide +kernel)) (fun _ h9 => h9) rfl dX0_after_4 ?_
  refine lv_icmp_ge (tgt := 16) hx hb dX0_after_7 (by decide) (fun c_1 => ?_) (fun c_1 => ?_)
  · refine lv_iconst (v := 0) hx hb dX0_after_16 (by decide) ?_
    exact kk_ri () hx hb hr hlk dX0_after_17 hS (hP.sub [0] rfl) (hD.sub [0] (by decide) rfl) (by show (0 : Int32) = f_X0_after cn edge; unfold f_X0_after; rw [if_pos c_1]; try rfl)
  · refine lv_iload_n hx hb dX0_after_10 rfl (lv_at hl 1 rfl) ?_
    refine lv_iconst (v := 1) hx hb dX0_after_11 (by decide) ?_
    refine lv_iadd hx hb dX0_after_12 ?_
    refine lv_goto (tgt := 17) hx hb dX0_after_13 (by decide) ?_
    exact kk_ri () hx hb hr hlk dX0_after_17 hS (hP.sub [0] rfl) (hD.sub [0] (by decide) rfl) (by show (edge + (1 : Int32)) = f_X0_after cn edge; unfold f_X0_after; rw [if_neg c_1]; try rfl)
theorem kk_after {cn edge : Int32} (hc : kk_L cn 8) (he : kk_L edge 7) : kk_L (f_X0_after cn edge) 7 := by
  unfold f_X0_after
  have h4 : (edge + 1).toInt = edge.toInt + 1 := kk_add (by rw [show (1 : Int32).toInt = 1 from rfl]; have := he.1; omega) (by rw [show (1 : Int32).toInt = 1 from rfl]; have := he.2; omega)
  obtain ⟨a, b⟩ := hc
  obtain ⟨a2, b2⟩ := he
  split
  · exact ⟨by decide, by decide⟩
  · rename_i h1
    rw [Int32.le_iff_toInt_le, h4] at h1
    exact ⟨by omega, by omega⟩
def f_X0_side (cn : Int32) (fx : Nat → Int32) (fy : Nat → Int32) (edge : Int32) (x : Int32) (y : Int32) : Int64 := (((((fx (f_X0_after cn edge).toNatClampNeg) - (fx edge.toNatClampNeg)).toInt64) * ((y - (fy edge.toNatClampNeg)).toInt64)) - ((((fy (f_X0_after cn edge).toNatClampNeg) - (fy edge.toNatClampNeg)).toInt64) * ((x - (fx edge.toNatClampNeg)).toInt64)))
set_option maxHeartbeats 4000000 in
set_option maxRecDepth 100000 in
theorem k_X0_side (l : Launch) (D : va_G) (cI cZ : ClassId) (q0 : Nat) (q1 : Nat) (q2 : Nat) (sz : Nat) (cn : Int32) (fx : Nat → Int32) (fy : Nat → Int32) (edge : Int32) (x : Int32) (y : Int32) (hcn : kk_L cn 8) (hed : kk_L edge 7) : kk_Ml l D cI cZ yX0_side wsX0_side ({ frames := 1, cells := 0, slots := 0, locals := 21 } : Room) [.ref q0, .int edge, .int x, .int y] sz [(q0, .inr (0, [.ref q1, .ref q2, .int cn])), (q1, .inl (cI, 8, .inl fx)), (q2, .inl (cI, 8, .inl fy))] (fun (r : Int64) (_ : Unit) => r = f_X0_side cn fx fy edge x y) (fun _ => [(q0, .inr (0, [.ref q1, .ref q2, .int cn])), (q1, .inl (cI, 8, .inl fx)), (q2, .inl (cI, 8, .inl fy))]) 0 0 := by
  refine kk_entl (cc := cX0_side) (maxL := 9) (ret := (some .long)) (by decide +kernel) rfl (Nat.le_of_ble_eq_true rfl) (fun p e s m args below meth c A ls hX hP hD hS hl => ?_)
  obtain ⟨hx, hb, hml, hown, hts, hr, hlk, hnm, hK, hA⟩ := hX
  have hown : s.vm.findClass RX0 = some m.cls := hown
  have hiX0 : ∀ w ∈ wsX00, w ∈ wsX0_side := by decide +kernel
  have hl : lv_has ls 9 [(0, .ref q0), (1, .int edge), (2, .int x), (3, .int y)] := hl
  refine lv_aload_n hx hb dX0_side_0 rfl (lv_at hl 0 rfl) ?_
  refine lv_iload_n hx hb dX0_side_1 rfl (lv_at hl 1 rfl) ?_
  refine kk_cVi (wc := [(q0, .inr (0, [.ref q1, .ref q2, .int cn]))]) (wr := [(q1, .inl (cI, 8, .inl fx)), (q2, .inl (cI, 8, .inl fy))]) ⟨hx, hb, hml, hown, hts⟩ hK hP hD hS hA [0] [1, 2] (k_X0_after l D cI cZ q0 q1 q2 s.heap.size cn edge) (cwV 1 hts gX0_side_X0_after rfl rfl rfl (by decide +kernel) ⟨(Nat.le_of_ble_eq_true rfl), (Nat.le_of_ble_eq_true rfl)⟩) rfl rfl (by decide) (by decide) (by decide) 0 0 rfl rfl rfl rfl hl.1 rfl (Nat.le_of_ble_eq_true rfl) dX0_side_2 ⟨(Nat.le_of_ble_eq_true rfl), (Nat.le_of_ble_eq_true rfl)⟩ (fun r_1 u H locs hw_2 hP hD hS => ?_)
  have hw_2 : (f_X0_after cn edge) = r_1 := (hw_2 : r_1 = (f_X0_after cn edge)).symm
  subst hw_2
  have hP : va_P D vwCl [(q1, .inl (cI, 8, .inl fx)), (q2, .inl (cI, 8, .inl fy)), (q0, .inr (0, [.ref q1, .ref q2, .int cn]))] H := hP
  have hD : va_D A [(q1, .inl (cI, 8, .inl fx)), (q2, .inl (cI, 8, .inl fy)), (q0, .inr (0, [.ref q1, .ref q2, .int cn]))] := hD
  refine lv_istore (lv' := [(4, .int (f_X0_after cn edge)), (0, .ref q0), (1, .int edge), (2, .int x), (3, .int y)]) hx hb dX0_side_5 hl (by decide) rfl (fun ls hl => ?_)
  refine lv_aload_n hx hb dX0_side_7 rfl (lv_at hl 1 rfl) ?_
  refine va_get (D := D) hx hb hts hiX0 hown hK.1 hP 2 rfl rfl 0 (by decide) (hts (.fieldLink RX0 9 "FencePilot$Corners" "xs" "[I") (by decide +kernel)) (fun _ h9 => h9) rfl dX0_side_8 ?_
  refine lv_iload hx hb dX0_side_11 (lv_at hl 0 rfl) ?_
  refine va_iald hx hb hK.1 hP 0 0 rfl rfl (kk_Lix (kk_after hcn hed)) dX0_side_13 ?_
  refine lv_aload_n hx hb dX0_side_14 rfl (lv_at hl 1 rfl) ?_
  refine va_get (D := D) hx hb hts hiX0 hown hK.1 hP 2 rfl rfl 0 (by decide) (hts (.fieldLink RX0 9 "FencePilot$Corners" "xs" "[I") (by decide +kernel)) (fun _ h9 => h9) rfl dX0_side_15 ?_
  refine lv_iload_n hx hb dX0_side_18 rfl (lv_at hl 2 rfl) ?_
  refine va_iald hx hb hK.1 hP 0 0 rfl rfl (kk_Lix hed) dX0_side_19 ?_
  refine lv_isub hx hb dX0_side_20 ?_
  refine lv_i2l hx hb dX0_side_21 rfl ?_
  refine lv_lstore (lv' := [(5, .long (((fx (f_X0_after cn edge).toNatClampNeg) - (fx edge.toNatClampNeg)).toInt64)), (4, .int (f_X0_after cn edge)), (0, .ref q0), (1, .int edge), (2, .int x), (3, .int y)]) hx hb dX0_side_22 hl (by decide) rfl (fun ls hl => ?_)
  refine lv_aload_n hx hb dX0_side_24 rfl (lv_at hl 2 rfl) ?_
  refine va_get (D := D) hx hb hts hiX0 hown hK.1 hP 2 rfl rfl 1 (by decide) (hts (.fieldLink RX0 15 "FencePilot$Corners" "ys" "[I") (by decide +kernel)) (fun _ h9 => h9) rfl dX0_side_25 ?_
  refine lv_iload hx hb dX0_side_28 (lv_at hl 1 rfl) ?_
  refine va_iald hx hb hK.1 hP 1 0 rfl rfl (kk_Lix (kk_after hcn hed)) dX0_side_30 ?_
  refine lv_aload_n hx hb dX0_side_31 rfl (lv_at hl 2 rfl) ?_
  refine va_get (D := D) hx hb hts hiX0 hown hK.1 hP 2 rfl rfl 1 (by decide) (hts (.fieldLink RX0 15 "FencePilot$Corners" "ys" "[I") (by decide +kernel)) (fun _ h9 => h9) rfl dX0_side_32 ?_
  refine lv_iload_n hx hb dX0_side_35 rfl (lv_at hl 3 rfl) ?_
  refine va_iald hx hb hK.1 hP 1 0 rfl rfl (kk_Lix hed) dX0_side_36 ?_
  refine lv_isub hx hb dX0_side_37 ?_
  refine lv_i2l hx hb dX0_side_38 rfl ?_
  refine lv_lstore (lv' := [(7, .long (((fy (f_X0_after cn edge).toNatClampNeg) - (fy edge.toNatClampNeg)).toInt64)), (5, .long (((fx (f_X0_after cn edge).toNatClampNeg) - (fx edge.toNatClampNeg)).toInt64)), (4, .int (f_X0_after cn edge)), (0, .ref q0), (1, .int edge), (2, .int x), (3, .int y)]) hx hb dX0_side_39 hl (by decide) rfl (fun ls hl => ?_)
  refine lv_lload hx hb dX0_side_41 (lv_at hl 1 rfl) ?_
  refine lv_iload_n hx hb dX0_side_43 rfl (lv_at hl 6 rfl) ?_
  refine lv_aload_n hx hb dX0_side_44 rfl (lv_at hl 3 rfl) ?_
  refine va_get (D := D) hx hb hts hiX0 hown hK.1 hP 2 rfl rfl 1 (by decide) (hts (.fieldLink RX0 15 "FencePilot$Corners" "ys" "[I") (by decide +kernel)) (fun _ h9 => h9) rfl dX0_side_45 ?_
  refine lv_iload_n hx hb dX0_side_48 rfl (lv_at hl 4 rfl) ?_
  refine va_iald hx hb hK.1 hP 1 0 rfl rfl (kk_Lix hed) dX0_side_49 ?_
  refine lv_isub hx hb dX0_side_50 ?_
  refine lv_i2l hx hb dX0_side_51 rfl ?_
  refine lv_lmul hx hb dX0_side_52 ?_
  refine lv_lload hx hb dX0_side_53 (lv_at hl 0 rfl) ?_
  refine lv_iload_n hx hb dX0_side_55 rfl (lv_at hl 5 rfl) ?_
  refine lv_aload_n hx hb dX0_side_56 rfl (lv_at hl 3 rfl) ?_
  refine va_get (D := D) hx hb hts hiX0 hown hK.1 hP 2 rfl rfl 0 (by decide) (hts (.fieldLink RX0 9 "FencePilot$Corners" "xs" "[I") (by decide +kernel)) (fun _ h9 => h9) rfl dX0_side_57 ?_
  refine lv_iload_n hx hb dX0_side_60 rfl (lv_at hl 4 rfl) ?_
  refine va_iald hx hb hK.1 hP 0 0 rfl rfl (kk_Lix hed) dX0_side_61 ?_
  refine lv_isub hx hb dX0_side_62 ?_
  refine lv_i2l hx hb dX0_side_63 rfl ?_
  refine lv_lmul hx hb dX0_side_64 ?_
  refine lv_lsub hx hb dX0_side_65 ?_
  exact kk_rl () hx hb hr hlk dX0_side_66 hS (hP.sub [2, 0, 1] rfl) (hD.sub [2, 0, 1] (by decide) rfl) (by show (((((fx (f_X0_after cn edge).toNatClampNeg) - (fx edge.toNatClampNeg)).toInt64) * ((y - (fy edge.toNatClampNeg)).toInt64)) - ((((fy (f_X0_after cn edge).toNatClampNeg) - (fy edge.toNatClampNeg)).toInt64) * ((x - (fx edge.toNatClampNeg)).toInt64))) = f_X0_side cn fx fy edge x y; unfold f_X0_side; rfl)
def f_X0_squaredLength (cn : Int32) (fx : Nat → Int32) (fy : Nat → Int32) (edge : Int32) : Int64 := (((((fx (f_X0_after cn edge).toNatClampNeg) - (fx edge.toNatClampNeg)).toInt64) * (((fx (f_X0_after cn edge).toNatClampNeg) - (fx edge.toNatClampNeg)).toInt64)) + ((((fy (f_X0_after cn edge).toNatClampNeg) - (fy edge.toNatClampNeg)).toInt64) * (((fy (f_X0_after cn edge).toNatClampNeg) - (fy edge.toNatClampNeg)).toInt64)))
set_option maxHeartbeats 4000000 in
set_option maxRecDepth 100000 in
theorem k_X0_squaredLength (l : Launch) (D : va_G) (cI cZ : ClassId) (q0 : Nat) (q1 : Nat) (q2 : Nat) (sz : Nat) (cn : Int32) (fx : Nat → Int32) (fy : Nat → Int32) (edge : Int32) (hcn : kk_L cn 8) (hed : kk_L edge 7) : kk_Ml l D cI cZ yX0_squaredLength wsX0_squaredLength ({ frames := 1, cells := 0, slots := 0, locals := 21 } : Room) [.ref q0, .int edge] sz [(q0, .inr (0, [.ref q1, .ref q2, .int cn])), (q1, .inl (cI, 8, .inl fx)), (q2, .inl (cI, 8, .inl fy))] (fun (r : Int64) (_ : Unit) => r = f_X0_squaredLength cn fx fy edge) (fun _ => [(q0, .inr (0, [.ref q1, .ref q2, .int cn])), (q1, .inl (cI, 8, .inl fx)), (q2, .inl (cI, 8, .inl fy))]) 0 0 := by
  refine kk_entl (cc := cX0_squaredLength) (maxL := 7) (ret := (some .long)) (by decide +kernel) rfl (Nat.le_of_ble_eq_true rfl) (fun p e s m args below meth c A ls hX hP hD hS hl => ?_)
  obtain ⟨hx, hb, hml, hown, hts, hr, hlk, hnm, hK, hA⟩ := hX
  have hown : s.vm.findClass RX0 = some m.cls := hown
  have hiX0 : ∀ w ∈ wsX00, w ∈ wsX0_squaredLength := by decide +kernel
  have hl : lv_has ls 7 [(0, .ref q0), (1, .int edge)] := hl
  refine lv_aload_n hx hb dX0_squaredLength_0 rfl (lv_at hl 0 rfl) ?_
  refine lv_iload_n hx hb dX0_squaredLength_1 rfl (lv_at hl 1 rfl) ?_
  refine kk_cVi (wc := [(q0, .inr (0, [.ref q1, .ref q2, .int cn]))]) (wr := [(q1, .inl (cI, 8, .inl fx)), (q2, .inl (cI, 8, .inl fy))]) ⟨hx, hb, hml, hown, hts⟩ hK hP hD hS hA [0] [1, 2] (k_X0_after l D cI cZ q0 q1 q2 s.heap.size cn edge) (cwV 1 hts gX0_squaredLength_X0_after rfl rfl rfl (by decide +kernel) ⟨(Nat.le_of_ble_eq_true rfl), (Nat.le_of_ble_eq_true rfl)⟩) rfl rfl (by decide) (by decide) (by decide) 0 0 rfl rfl rfl rfl hl.1 rfl (Nat.le_of_ble_eq_true rfl) dX0_squaredLength_2 ⟨(Nat.le_of_ble_eq_true rfl), (Nat.le_of_ble_eq_true rfl)⟩ (fun r_1 u H locs hw_2 hP hD hS => ?_)
  have hw_2 : (f_X0_after cn edge) = r_1 := (hw_2 : r_1 = (f_X0_after cn edge)).symm
  subst hw_2
  have hP : va_P D vwCl [(q1, .inl (cI, 8, .inl fx)), (q2, .inl (cI, 8, .inl fy)), (q0, .inr (0, [.ref q1, .ref q2, .int cn]))] H := hP
  have hD : va_D A [(q1, .inl (cI, 8, .inl fx)), (q2, .inl (cI, 8, .inl fy)), (q0, .inr (0, [.ref q1, .ref q2, .int cn]))] := hD
  refine lv_istore_n (lv' := [(2, .int (f_X0_after cn edge)), (0, .ref q0), (1, .int edge)]) hx hb dX0_squaredLength_5 rfl hl (by decide) rfl (fun ls hl => ?_)
  refine lv_aload_n hx hb dX0_squaredLength_6 rfl (lv_at hl 1 rfl) ?_
  refine va_get (D := D) hx hb hts hiX0 hown hK.1 hP 2 rfl rfl 0 (by decide) (hts (.fieldLink RX0 9 "FencePilot$Corners" "xs" "[I") (by decide +kernel)) (fun _ h9 => h9) rfl dX0_squaredLength_7 ?_
  refine lv_iload_n hx hb dX0_squaredLength_10 rfl (lv_at hl 0 rfl) ?_
  refine va_iald hx hb hK.1 hP 0 0 rfl rfl (kk_Lix (kk_after hcn hed)) dX0_squaredLength_11 ?_
  refine lv_aload_n hx hb dX0_squaredLength_12 rfl (lv_at hl 1 rfl) ?_
  refine va_get (D := D) hx hb hts hiX0 hown hK.1 hP 2 rfl rfl 0 (by decide) (hts (.fieldLink RX0 9 "FencePilot$Corners" "xs" "[I") (by decide +kernel)) (fun _ h9 => h9) rfl dX0_squaredLength_13 ?_
  refine lv_iload_n hx hb dX0_squaredLength_16 rfl (lv_at hl 2 rfl) ?_
  refine va_iald hx hb hK.1 hP 0 0 rfl rfl (kk_Lix hed) dX0_squaredLength_17 ?_
  refine lv_isub hx hb dX0_squaredLength_18 ?_
  refine lv_i2l hx hb dX0_squaredLength_19 rfl ?_
  refine lv_lstore_n (lv' := [(3, .long (((fx (f_X0_after cn edge).toNatClampNeg) - (fx edge.toNatClampNeg)).toInt64)), (2, .int (f_X0_after cn edge)), (0, .ref q0), (1, .int edge)]) hx hb dX0_squaredLength_20 rfl hl (by decide) rfl (fun ls hl => ?_)
  refine lv_aload_n hx hb dX0_squaredLength_21 rfl (lv_at hl 2 rfl) ?_
  refine va_get (D := D) hx hb hts hiX0 hown hK.1 hP 2 rfl rfl 1 (by decide) (hts (.fieldLink RX0 15 "FencePilot$Corners" "ys" "[I") (by decide +kernel)) (fun _ h9 => h9) rfl dX0_squaredLength_22 ?_
  refine lv_iload_n hx hb dX0_squaredLength_25 rfl (lv_at hl 1 rfl) ?_
  refine va_iald hx hb hK.1 hP 1 0 rfl rfl (kk_Lix (kk_after hcn hed)) dX0_squaredLength_26 ?_
  refine lv_aload_n hx hb dX0_squaredLength_27 rfl (lv_at hl 2 rfl) ?_
  refine va_get (D := D) hx hb hts hiX0 hown hK.1 hP 2 rfl rfl 1 (by decide) (hts (.fieldLink RX0 15 "FencePilot$Corners" "ys" "[I") (by decide +kernel)) (fun _ h9 => h9) rfl dX0_squaredLength_28 ?_
  refine lv_iload_n hx hb dX0_squaredLength_31 rfl (lv_at hl 3 rfl) ?_
  refine va_iald hx hb hK.1 hP 1 0 rfl rfl (kk_Lix hed) dX0_squaredLength_32 ?_
  refine lv_isub hx hb dX0_squaredLength_33 ?_
  refine lv_i2l hx hb dX0_squaredLength_34 rfl ?_
  refine lv_lstore (lv' := [(5, .long (((fy (f_X0_after cn edge).toNatClampNeg) - (fy edge.toNatClampNeg)).toInt64)), (3, .long (((fx (f_X0_after cn edge).toNatClampNeg) - (fx edge.toNatClampNeg)).toInt64)), (2, .int (f_X0_after cn edge)), (0, .ref q0), (1, .int edge)]) hx hb dX0_squaredLength_35 hl (by decide) rfl (fun ls hl => ?_)
  refine lv_lload_n hx hb dX0_squaredLength_37 rfl (lv_at hl 1 rfl) ?_
  refine lv_lload_n hx hb dX0_squaredLength_38 rfl (lv_at hl 1 rfl) ?_
  refine lv_lmul hx hb dX0_squaredLength_39 ?_
  refine lv_lload hx hb dX0_squaredLength_40 (lv_at hl 0 rfl) ?_
  refine lv_lload hx hb dX0_squaredLength_42 (lv_at hl 0 rfl) ?_
  refine lv_lmul hx hb dX0_squaredLength_44 ?_
  refine lv_ladd hx hb dX0_squaredLength_45 ?_
  exact kk_rl () hx hb hr hlk dX0_squaredLength_46 hS (hP.sub [2, 0, 1] rfl) (hD.sub [2, 0, 1] (by decide) rfl) (by show (((((fx (f_X0_after cn edge).toNatClampNeg) - (fx edge.toNatClampNeg)).toInt64) * (((fx (f_X0_after cn edge).toNatClampNeg) - (fx edge.toNatClampNeg)).toInt64)) + ((((fy (f_X0_after cn edge).toNatClampNeg) - (fy edge.toNatClampNeg)).toInt64) * (((fy (f_X0_after cn edge).toNatClampNeg) - (fy edge.toNatClampNeg)).toInt64))) = f_X0_squaredLength cn fx fy edge; unfold f_X0_squaredLength; rfl)
def f_X0_isClear (cn : Int32) (fx : Nat → Int32) (fy : Nat → Int32) (edge : Int32) (x : Int32) (y : Int32) (mg : Int32) : Int32 := (if (lg_cmp (f_X0_side cn fx fy edge x y) (0 : Int64)) < (0 : Int32) then (0 : Int32) else (if (lg_cmp ((f_X0_side cn fx fy edge x y) * (f_X0_side cn fx fy edge x y)) (((mg.toInt64) * (mg.toInt64)) * (f_X0_squaredLength cn fx fy edge))) < (0 : Int32) then (0 : Int32) else (1 : Int32)))
set_option maxHeartbeats 4000000 in
set_option maxRecDepth 100000 in
theorem k_X0_isClear (l : Launch) (D : va_G) (cI cZ : ClassId) (q0 : Nat) (q1 : Nat) (q2 : Nat) (sz : Nat) (cn : Int32) (fx : Nat → Int32) (fy : Nat → Int32) (edge : Int32) (x : Int32) (y : Int32) (mg : Int32) (hcn : kk_L cn 8) (hed : kk_L edge 7) : kk_Mi l D cI cZ yX0_isClear wsX0_isClear ({ frames := 2, cells := 0, slots := 0, locals := 49 } : Room) [.ref q0, .int edge, .int x, .int y, .int mg] sz [(q0, .inr (0, [.ref q1, .ref q2, .int cn])), (q1, .inl (cI, 8, .inl fx)), (q2, .inl (cI, 8, .inl fy))] (fun (r : Int32) (_ : Unit) => r = f_X0_isClear cn fx fy edge x y mg) (fun _ => [(q0, .inr (0, [.ref q1, .ref q2, .int cn])), (q1, .inl (cI, 8, .inl fx)), (q2, .inl (cI, 8, .inl fy))]) 0 0 := by
  refine kk_enti (cc := cX0_isClear) (maxL := 7) (ret := (some .boolean)) (by decide +kernel) rfl (Nat.le_of_ble_eq_true rfl) (fun p e s m args below meth c A ls hX hP hD hS hl => ?_)
  obtain ⟨hx, hb, hml, hown, hts, hr, hlk, hnm, hK, hA⟩ := hX
  have hown : s.vm.findClass RX0 = some m.cls := hown
  have hiX0 : ∀ w ∈ wsX00, w ∈ wsX0_isClear := by decide +kernel
  have hl : lv_has ls 7 [(0, .ref q0), (1, .int edge), (2, .int x), (3, .int y), (4, .int mg)] := hl
  refine lv_aload_n hx hb dX0_isClear_0 rfl (lv_at hl 0 rfl) ?_
  refine lv_iload_n hx hb dX0_isClear_1 rfl (lv_at hl 1 rfl) ?_
  refine lv_iload_n hx hb dX0_isClear_2 rfl (lv_at hl 2 rfl) ?_
  refine lv_iload_n hx hb dX0_isClear_3 rfl (lv_at hl 3 rfl) ?_
  refine kk_cVl (wc := [(q0, .inr (0, [.ref q1, .ref q2, .int cn])), (q1, .inl (cI, 8, .inl fx)), (q2, .inl (cI, 8, .inl fy))]) (wr := []) ⟨hx, hb, hml, hown, hts⟩ hK hP hD hS hA [0, 1, 2] [] (k_X0_side l D cI cZ q0 q1 q2 s.heap.size cn fx fy edge x y (by assumption) (by assumption)) (cwV 3 hts gX0_isClear_X0_side rfl rfl rfl (by decide +kernel) ⟨(Nat.le_of_ble_eq_true rfl), (Nat.le_of_ble_eq_true rfl)⟩) rfl rfl (by decide) (by decide) (by decide) 0 0 rfl rfl rfl rfl hl.1 rfl (Nat.le_of_ble_eq_true rfl) dX0_isClear_4 ⟨(Nat.le_of_ble_eq_true rfl), (Nat.le_of_ble_eq_true rfl)⟩ (fun r_1 u H locs hw_2 hP hD hS => ?_)
  have hw_2 : (f_X0_side cn fx fy edge x y) = r_1 := (hw_2 : r_1 = (f_X0_side cn fx fy edge x y)).symm
  subst hw_2
  have hP : va_P D vwCl [(q0, .inr (0, [.ref q1, .ref q2, .int cn])), (q1, .inl (cI, 8, .inl fx)), (q2, .inl (cI, 8, .inl fy))] H := hP
  have hD : va_D A [(q0, .inr (0, [.ref q1, .ref q2, .int cn])), (q1, .inl (cI, 8, .inl fx)), (q2, .inl (cI, 8, .inl fy))] := hD
  refine lv_lstore (lv' := [(5, .long (f_X0_side cn fx fy edge x y)), (0, .ref q0), (1, .int edge), (2, .int x), (3, .int y), (4, .int mg)]) hx hb dX0_isClear_7 hl (by decide) rfl (fun ls hl => ?_)
  refine lv_lload hx hb dX0_isClear_9 (lv_at hl 0 rfl) ?_
  refine lv_lconst (v := 0) hx hb dX0_isClear_11 (by decide) ?_
  refine W.lcmp hx hb dX0_isClear_12 ?_
  refine lv_if_lt (tgt := 42) hx hb dX0_isClear_13 (by decide) (fun c_3 => ?_) (fun c_3 => ?_)
  · refine lv_iconst (v := 0) hx hb dX0_isClear_42 (by decide) ?_
    exact kk_rz () hx hb hr hlk dX0_isClear_43 hS (hP.sub [0, 1, 2] rfl) (hD.sub [0, 1, 2] (by decide) rfl) rfl (by show (0 : Int32) = f_X0_isClear cn fx fy edge x y mg; unfold f_X0_isClear; rw [if_pos c_3]; try rfl)
  · refine lv_lload hx hb dX0_isClear_16 (lv_at hl 0 rfl) ?_
    refine lv_lload hx hb dX0_isClear_18 (lv_at hl 0 rfl) ?_
    refine lv_lmul hx hb dX0_isClear_20 ?_
    refine lv_iload hx hb dX0_isClear_21 (lv_at hl 5 rfl) ?_
    refine lv_i2l hx hb dX0_isClear_23 rfl ?_
    refine lv_iload hx hb dX0_isClear_24 (lv_at hl 5 rfl) ?_
    refine lv_i2l hx hb dX0_isClear_26 rfl ?_
    refine lv_lmul hx hb dX0_isClear_27 ?_
    refine lv_aload_n hx hb dX0_isClear_28 rfl (lv_at hl 1 rfl) ?_
    refine lv_iload_n hx hb dX0_isClear_29 rfl (lv_at hl 2 rfl) ?_
    refine kk_cVl (wc := [(q0, .inr (0, [.ref q1, .ref q2, .int cn])), (q1, .inl (cI, 8, .inl fx)), (q2, .inl (cI, 8, .inl fy))]) (wr := []) ⟨hx, hb, hml, hown, hts⟩ hK hP hD hS hA [0, 1, 2] [] (k_X0_squaredLength l D cI cZ q0 q1 q2 H.size cn fx fy edge (by assumption) (by assumption)) (cwV 1 hts gX0_isClear_X0_squaredLength rfl rfl rfl (by decide +kernel) ⟨(Nat.le_of_ble_eq_true rfl), (Nat.le_of_ble_eq_true rfl)⟩) rfl rfl (by decide) (by decide) (by decide) 0 0 rfl rfl rfl rfl hl.1 rfl (Nat.le_of_ble_eq_true rfl) dX0_isClear_30 ⟨(Nat.le_of_ble_eq_true rfl), (Nat.le_of_ble_eq_true rfl)⟩ (fun r_4 u H locs hw_5 hP hD hS => ?_)
    have hw_5 : (f_X0_squaredLength cn fx fy edge) = r_4 := (hw_5 : r_4 = (f_X0_squaredLength cn fx fy edge)).symm
    subst hw_5
    have hP : va_P D vwCl [(q0, .inr (0, [.ref q1, .ref q2, .int cn])), (q1, .inl (cI, 8, .inl fx)), (q2, .inl (cI, 8, .inl fy))] H := hP
    have hD : va_D A [(q0, .inr (0, [.ref q1, .ref q2, .int cn])), (q1, .inl (cI, 8, .inl fx)), (q2, .inl (cI, 8, .inl fy))] := hD
    refine lv_lmul hx hb dX0_isClear_33 ?_
    refine W.lcmp hx hb dX0_isClear_34 ?_
    refine lv_if_lt (tgt := 42) hx hb dX0_isClear_35 (by decide) (fun c_6 => ?_) (fun c_6 => ?_)
    · refine lv_iconst (v := 0) hx hb dX0_isClear_42 (by decide) ?_
      exact kk_rz () hx hb hr hlk dX0_isClear_43 hS (hP.sub [0, 1, 2] rfl) (hD.sub [0, 1, 2] (by decide) rfl) rfl (by show (0 : Int32) = f_X0_isClear cn fx fy edge x y mg; unfold f_X0_isClear; rw [if_neg c_3]; rw [if_pos c_6]; try rfl)
    · refine lv_iconst (v := 1) hx hb dX0_isClear_38 (by decide) ?_
      refine lv_goto (tgt := 43) hx hb dX0_isClear_39 (by decide) ?_
      exact kk_rz () hx hb hr hlk dX0_isClear_43 hS (hP.sub [0, 1, 2] rfl) (hD.sub [0, 1, 2] (by decide) rfl) rfl (by show (1 : Int32) = f_X0_isClear cn fx fy edge x y mg; unfold f_X0_isClear; rw [if_neg c_3]; rw [if_neg c_6]; try rfl)
def g_X0_hasOthersInside_lp (cn : Int32) (fx : Nat → Int32) (fy : Nat → Int32) (edge : Int32) : Nat → Int32 → Int32
  | 0, _ => 0
  | fuel + 1, ix => (if cn ≤ ix then (1 : Int32) else (if ix = edge then (g_X0_hasOthersInside_lp cn fx fy edge fuel (ix + 1)) else (if ix = (f_X0_after cn edge) then (g_X0_hasOthersInside_lp cn fx fy edge fuel (ix + 1)) else (if (0 : Int32) < (lg_cmp (f_X0_side cn fx fy edge (fx ix.toNatClampNeg) (fy ix.toNatClampNeg)) (0 : Int64)) then (g_X0_hasOthersInside_lp cn fx fy edge fuel (ix + 1)) else (0 : Int32)))))
def f_X0_hasOthersInside (cn : Int32) (fx : Nat → Int32) (fy : Nat → Int32) (edge : Int32) : Int32 := (g_X0_hasOthersInside_lp cn fx fy edge 9 (0 : Int32))
set_option maxHeartbeats 4000000 in
set_option maxRecDepth 100000 in
theorem lp_X0_hasOthersInside_lp (l : Launch) (D : va_G) (cI cZ : ClassId) (q0 : Nat) (q1 : Nat) (q2 : Nat) (cn : Int32) (fx : Nat → Int32) (fy : Nat → Int32) (edge : Int32) (hcn : kk_L cn 8) (hed : kk_L edge 7)  {p : Program} {e : Env} {s : State} {m : MethodId} {args : Array Value} {below : List Frame} {meth : Method} {c : Code} {A : Nat → Prop} (hX : kk_X p s m args meth c cX0_hasOthersInside 3 (some .boolean) yX0_hasOthersInside wsX0_hasOthersInside A D cI cZ) (FIN : Int32)  :
    ∀ (fuel : Nat) (ix : Int32) (H : Heap) (locs : List Loc) (ls : Array Slot), kk_I fuel ix cn → FIN = g_X0_hasOthersInside_lp cn fx fy edge fuel ix → va_P D vwCl [(q0, .inr (0, [.ref q1, .ref q2, .int cn])), (q1, .inl (cI, 8, .inl fx)), (q2, .inl (cI, 8, .inl fy))] H → va_D A [(q0, .inr (0, [.ref q1, .ref q2, .int cn])), (q1, .inl (cI, 8, .inl fx)), (q2, .inl (cI, 8, .inl fy))] → va_S A s.heap H locs → lv_has ls 3 [(0, .ref q0), (1, .int edge), (2, .int ix)] → W p l e ({ frames := 2, cells := 0, slots := 0, locals := 49 } : Room) s m args below meth c H locs 0 0 (MQ below (va_Qi (fun (r : Int32) (_ : Unit) => r = FIN) (fun _ t => kk_B D A [(q0, .inr (0, [.ref q1, .ref q2, .int cn])), (q1, .inl (cI, 8, .inl fx)), (q2, .inl (cI, 8, .inl fy))] t) A) args s 0 0 A) (F0 m 2 ls []) := by
  have hX0 := hX
  obtain ⟨hx, hb, hml, hown, hts, hr, hlk, hnm, hK, hA⟩ := hX
  have hown : s.vm.findClass RX0 = some m.cls := hown
  have hiX0 : ∀ w ∈ wsX00, w ∈ wsX0_hasOthersInside := by decide +kernel
  intro fuel
  induction fuel with
  | zero =>
    intro ix H locs ls hI
    exact absurd hI kk_I0
  | succ fuel ih =>
    intro ix H locs ls hI hF hP hD hS hl
    refine lv_iload_n hx hb dX0_hasOthersInside_2 rfl (lv_at hl 2 rfl) ?_
    refine lv_aload_n hx hb dX0_hasOthersInside_3 rfl (lv_at hl 0 rfl) ?_
    refine va_get (D := D) hx hb hts hiX0 hown hK.1 hP 0 rfl rfl 2 (by decide) (hts (.fieldLink RX0 18 "FencePilot$Corners" "count" "I") (by decide +kernel)) (fun _ h9 => h9) rfl dX0_hasOthersInside_4 ?_
    refine lv_icmp_ge (tgt := 54) hx hb dX0_hasOthersInside_7 (by decide) (fun c_1001 => ?_) (fun c_1001 => ?_)
    · refine lv_iconst (v := 1) hx hb dX0_hasOthersInside_54 (by decide) ?_
      exact kk_rz () hx hb hr hlk dX0_hasOthersInside_55 hS (hP.sub [0, 1, 2] rfl) (hD.sub [0, 1, 2] (by decide) rfl) rfl (by show (1 : Int32) = FIN; rw [hF, g_X0_hasOthersInside_lp]; rw [if_pos c_1001]; try rfl)
    · refine lv_iload_n hx hb dX0_hasOthersInside_10 rfl (lv_at hl 2 rfl) ?_
      refine lv_iload_n hx hb dX0_hasOthersInside_11 rfl (lv_at hl 1 rfl) ?_
      refine lv_icmp_eq (tgt := 48) hx hb dX0_hasOthersInside_12 (by decide) (fun c_1002 => ?_) (fun c_1002 => ?_)
      · refine lv_iinc (v := (ix + 1)) (lv' := [(2, .int (ix + 1)), (0, .ref q0), (1, .int edge)]) hx hb dX0_hasOthersInside_48 hl (k := 2) rfl (by first | rfl | decide) (by decide) rfl (fun ls hl => ?_)
        refine lv_goto (tgt := 2) hx hb dX0_hasOthersInside_51 (by decide) ?_
        exact ih (ix + 1) _ _ _ (kk_Iup hI c_1001) (by show FIN = (g_X0_hasOthersInside_lp cn fx fy edge fuel (ix + 1)); rw [hF, g_X0_hasOthersInside_lp]; rw [if_neg c_1001]; rw [if_pos c_1002]; try rfl) (hP.sub [0, 1, 2] rfl) (hD.sub [0, 1, 2] (by decide) rfl) hS (lv_sub hl [1, 2, 0] rfl)
      · refine lv_iload_n hx hb dX0_hasOthersInside_15 rfl (lv_at hl 2 rfl) ?_
        refine lv_aload_n hx hb dX0_hasOthersInside_16 rfl (lv_at hl 0 rfl) ?_
        refine lv_iload_n hx hb dX0_hasOthersInside_17 rfl (lv_at hl 1 rfl) ?_
        refine kk_cVi (wc := [(q0, .inr (0, [.ref q1, .ref q2, .int cn]))]) (wr := [(q1, .inl (cI, 8, .inl fx)), (q2, .inl (cI, 8, .inl fy))]) ⟨hx, hb, hml, hown, hts⟩ hK hP hD hS hA [0] [1, 2] (k_X0_after l D cI cZ q0 q1 q2 H.size cn edge) (cwV 1 hts gX0_hasOthersInside_X0_after rfl rfl rfl (by decide +kernel) ⟨(Nat.le_of_ble_eq_true rfl), (Nat.le_of_ble_eq_true rfl)⟩) rfl rfl (by decide) (by decide) (by decide) 0 0 rfl rfl rfl rfl hl.1 rfl (Nat.le_of_ble_eq_true rfl) dX0_hasOthersInside_18 ⟨(Nat.le_of_ble_eq_true rfl), (Nat.le_of_ble_eq_true rfl)⟩ (fun r_1003 u H locs hw_1004 hP hD hS => ?_)
        have hw_1004 : (f_X0_after cn edge) = r_1003 := (hw_1004 : r_1003 = (f_X0_after cn edge)).symm
        subst hw_1004
        have hP : va_P D vwCl [(q1, .inl (cI, 8, .inl fx)), (q2, .inl (cI, 8, .inl fy)), (q0, .inr (0, [.ref q1, .ref q2, .int cn]))] H := hP
        have hD : va_D A [(q1, .inl (cI, 8, .inl fx)), (q2, .inl (cI, 8, .inl fy)), (q0, .inr (0, [.ref q1, .ref q2, .int cn]))] := hD
        refine lv_icmp_eq (tgt := 48) hx hb dX0_hasOthersInside_21 (by decide) (fun c_1005 => ?_) (fun c_1005 => ?_)
        · refine lv_iinc (v := (ix + 1)) (lv' := [(2, .int (ix + 1)), (0, .ref q0), (1, .int edge)]) hx hb dX0_hasOthersInside_48 hl (k := 2) rfl (by first | rfl | decide) (by decide) rfl (fun ls hl => ?_)
          refine lv_goto (tgt := 2) hx hb dX0_hasOthersInside_51 (by decide) ?_
          exact ih (ix + 1) _ _ _ (kk_Iup hI c_1001) (by show FIN = (g_X0_hasOthersInside_lp cn fx fy edge fuel (ix + 1)); rw [hF, g_X0_hasOthersInside_lp]; rw [if_neg c_1001]; rw [if_neg c_1002]; rw [if_pos c_1005]; try rfl) (hP.sub [2, 0, 1] rfl) (hD.sub [2, 0, 1] (by decide) rfl) hS (lv_sub hl [1, 2, 0] rfl)
        · refine lv_aload_n hx hb dX0_hasOthersInside_24 rfl (lv_at hl 0 rfl) ?_
          refine lv_iload_n hx hb dX0_hasOthersInside_25 rfl (lv_at hl 1 rfl) ?_
          refine lv_aload_n hx hb dX0_hasOthersInside_26 rfl (lv_at hl 0 rfl) ?_
          refine va_get (D := D) hx hb hts hiX0 hown hK.1 hP 2 rfl rfl 0 (by decide) (hts (.fieldLink RX0 9 "FencePilot$Corners" "xs" "[I") (by decide +kernel)) (fun _ h9 => h9) rfl dX0_hasOthersInside_27 ?_
          refine lv_iload_n hx hb dX0_hasOthersInside_30 rfl (lv_at hl 2 rfl) ?_
          refine va_iald hx hb hK.1 hP 0 0 rfl rfl (kk_Iix hI c_1001 hcn.2) dX0_hasOthersInside_31 ?_
          refine lv_aload_n hx hb dX0_hasOthersInside_32 rfl (lv_at hl 0 rfl) ?_
          refine va_get (D := D) hx hb hts hiX0 hown hK.1 hP 2 rfl rfl 1 (by decide) (hts (.fieldLink RX0 15 "FencePilot$Corners" "ys" "[I") (by decide +kernel)) (fun _ h9 => h9) rfl dX0_hasOthersInside_33 ?_
          refine lv_iload_n hx hb dX0_hasOthersInside_36 rfl (lv_at hl 2 rfl) ?_
          refine va_iald hx hb hK.1 hP 1 0 rfl rfl (kk_Iix hI c_1001 hcn.2) dX0_hasOthersInside_37 ?_
          refine kk_cVl (wc := [(q0, .inr (0, [.ref q1, .ref q2, .int cn])), (q1, .inl (cI, 8, .inl fx)), (q2, .inl (cI, 8, .inl fy))]) (wr := []) ⟨hx, hb, hml, hown, hts⟩ hK hP hD hS hA [2, 0, 1] [] (k_X0_side l D cI cZ q0 q1 q2 H.size cn fx fy edge (fx ix.toNatClampNeg) (fy ix.toNatClampNeg) (by assumption) (by assumption)) (cwV 3 hts gX0_hasOthersInside_X0_side rfl rfl rfl (by decide +kernel) ⟨(Nat.le_of_ble_eq_true rfl), (Nat.le_of_ble_eq_true rfl)⟩) rfl rfl (by decide) (by decide) (by decide) 0 0 rfl rfl rfl rfl hl.1 rfl (Nat.le_of_ble_eq_true rfl) dX0_hasOthersInside_38 ⟨(Nat.le_of_ble_eq_true rfl), (Nat.le_of_ble_eq_true rfl)⟩ (fun r_1006 u H locs hw_1007 hP hD hS => ?_)
          have hw_1007 : (f_X0_side cn fx fy edge (fx ix.toNatClampNeg) (fy ix.toNatClampNeg)) = r_1006 := (hw_1007 : r_1006 = (f_X0_side cn fx fy edge (fx ix.toNatClampNeg) (fy ix.toNatClampNeg))).symm
          subst hw_1007
          have hP : va_P D vwCl [(q0, .inr (0, [.ref q1, .ref q2, .int cn])), (q1, .inl (cI, 8, .inl fx)), (q2, .inl (cI, 8, .inl fy))] H := hP
          have hD : va_D A [(q0, .inr (0, [.ref q1, .ref q2, .int cn])), (q1, .inl (cI, 8, .inl fx)), (q2, .inl (cI, 8, .inl fy))] := hD
          refine lv_lconst (v := 0) hx hb dX0_hasOthersInside_41 (by decide) ?_
          refine W.lcmp hx hb dX0_hasOthersInside_42 ?_
          refine lv_if_gt (tgt := 48) hx hb dX0_hasOthersInside_43 (by decide) (fun c_1008 => ?_) (fun c_1008 => ?_)
          · refine lv_iinc (v := (ix + 1)) (lv' := [(2, .int (ix + 1)), (0, .ref q0), (1, .int edge)]) hx hb dX0_hasOthersInside_48 hl (k := 2) rfl (by first | rfl | decide) (by decide) rfl (fun ls hl => ?_)
            refine lv_goto (tgt := 2) hx hb dX0_hasOthersInside_51 (by decide) ?_
            exact ih (ix + 1) _ _ _ (kk_Iup hI c_1001) (by show FIN = (g_X0_hasOthersInside_lp cn fx fy edge fuel (ix + 1)); rw [hF, g_X0_hasOthersInside_lp]; rw [if_neg c_1001]; rw [if_neg c_1002]; rw [if_neg c_1005]; rw [if_pos c_1008]; try rfl) (hP.sub [0, 1, 2] rfl) (hD.sub [0, 1, 2] (by decide) rfl) hS (lv_sub hl [1, 2, 0] rfl)
          · refine lv_iconst (v := 0) hx hb dX0_hasOthersInside_46 (by decide) ?_
            exact kk_rz () hx hb hr hlk dX0_hasOthersInside_47 hS (hP.sub [0, 1, 2] rfl) (hD.sub [0, 1, 2] (by decide) rfl) rfl (by show (0 : Int32) = FIN; rw [hF, g_X0_hasOthersInside_lp]; rw [if_neg c_1001]; rw [if_neg c_1002]; rw [if_neg c_1005]; rw [if_neg c_1008]; try rfl)
set_option maxHeartbeats 4000000 in
set_option maxRecDepth 100000 in
theorem k_X0_hasOthersInside (l : Launch) (D : va_G) (cI cZ : ClassId) (q0 : Nat) (q1 : Nat) (q2 : Nat) (sz : Nat) (cn : Int32) (fx : Nat → Int32) (fy : Nat → Int32) (edge : Int32) (hcn : kk_L cn 8) (hed : kk_L edge 7) : kk_Mi l D cI cZ yX0_hasOthersInside wsX0_hasOthersInside ({ frames := 2, cells := 0, slots := 0, locals := 49 } : Room) [.ref q0, .int edge] sz [(q0, .inr (0, [.ref q1, .ref q2, .int cn])), (q1, .inl (cI, 8, .inl fx)), (q2, .inl (cI, 8, .inl fy))] (fun (r : Int32) (_ : Unit) => r = f_X0_hasOthersInside cn fx fy edge) (fun _ => [(q0, .inr (0, [.ref q1, .ref q2, .int cn])), (q1, .inl (cI, 8, .inl fx)), (q2, .inl (cI, 8, .inl fy))]) 0 0 := by
  refine kk_enti (cc := cX0_hasOthersInside) (maxL := 3) (ret := (some .boolean)) (by decide +kernel) rfl (Nat.le_of_ble_eq_true rfl) (fun p e s m args below meth c A ls hX hP hD hS hl => ?_)
  have hX0 := hX
  obtain ⟨hx, hb, hml, hown, hts, hr, hlk, hnm, hK, hA⟩ := hX
  have hown : s.vm.findClass RX0 = some m.cls := hown
  have hiX0 : ∀ w ∈ wsX00, w ∈ wsX0_hasOthersInside := by decide +kernel
  have hl : lv_has ls 3 [(0, .ref q0), (1, .int edge)] := hl
  refine lv_iconst (v := 0) hx hb dX0_hasOthersInside_0 (by decide) ?_
  refine lv_istore_n (lv' := [(2, .int (0 : Int32)), (0, .ref q0), (1, .int edge)]) hx hb dX0_hasOthersInside_1 rfl hl (by decide) rfl (fun ls hl => ?_)
  exact lp_X0_hasOthersInside_lp l D cI cZ q0 q1 q2 cn fx fy edge hcn hed hX0 (f_X0_hasOthersInside cn fx fy edge) 9 (0 : Int32) _ _ _ (kk_Ist 9 hcn.1 (Int.lt_of_le_of_lt hcn.2 (by decide))) (by show f_X0_hasOthersInside cn fx fy edge = (g_X0_hasOthersInside_lp cn fx fy edge 9 (0 : Int32)); unfold f_X0_hasOthersInside; rfl) (hP.sub [0, 1, 2] rfl) (hD.sub [0, 1, 2] (by decide) rfl) hS (lv_sub hl [1, 2, 0] rfl)
def g_X0_areConvex_lp (cn : Int32) (fx : Nat → Int32) (fy : Nat → Int32) : Nat → Int32 → Int32
  | 0, _ => 0
  | fuel + 1, ix => (if cn ≤ ix then (1 : Int32) else (if (lg_cmp (f_X0_squaredLength cn fx fy ix) (0 : Int64)) = (0 : Int32) then (0 : Int32) else (if (f_X0_hasOthersInside cn fx fy ix) = (0 : Int32) then (0 : Int32) else (g_X0_areConvex_lp cn fx fy fuel (ix + 1)))))
def f_X0_areConvex (cn : Int32) (fx : Nat → Int32) (fy : Nat → Int32) : Int32 := (g_X0_areConvex_lp cn fx fy 9 (0 : Int32))
set_option maxHeartbeats 4000000 in
set_option maxRecDepth 100000 in
theorem lp_X0_areConvex_lp (l : Launch) (D : va_G) (cI cZ : ClassId) (q0 : Nat) (q1 : Nat) (q2 : Nat) (cn : Int32) (fx : Nat → Int32) (fy : Nat → Int32) (hcn : kk_L cn 8)  {p : Program} {e : Env} {s : State} {m : MethodId} {args : Array Value} {below : List Frame} {meth : Method} {c : Code} {A : Nat → Prop} (hX : kk_X p s m args meth c cX0_areConvex 2 (some .boolean) yX0_areConvex wsX0_areConvex A D cI cZ) (FIN : Int32)  :
    ∀ (fuel : Nat) (ix : Int32) (H : Heap) (locs : List Loc) (ls : Array Slot), kk_I fuel ix cn → FIN = g_X0_areConvex_lp cn fx fy fuel ix → va_P D vwCl [(q0, .inr (0, [.ref q1, .ref q2, .int cn])), (q1, .inl (cI, 8, .inl fx)), (q2, .inl (cI, 8, .inl fy))] H → va_D A [(q0, .inr (0, [.ref q1, .ref q2, .int cn])), (q1, .inl (cI, 8, .inl fx)), (q2, .inl (cI, 8, .inl fy))] → va_S A s.heap H locs → lv_has ls 2 [(0, .ref q0), (1, .int ix)] → W p l e ({ frames := 3, cells := 0, slots := 0, locals := 71 } : Room) s m args below meth c H locs 0 0 (MQ below (va_Qi (fun (r : Int32) (_ : Unit) => r = FIN) (fun _ t => kk_B D A [(q0, .inr (0, [.ref q1, .ref q2, .int cn])), (q1, .inl (cI, 8, .inl fx)), (q2, .inl (cI, 8, .inl fy))] t) A) args s 0 0 A) (F0 m 2 ls []) := by
  have hX0 := hX
  obtain ⟨hx, hb, hml, hown, hts, hr, hlk, hnm, hK, hA⟩ := hX
  have hown : s.vm.findClass RX0 = some m.cls := hown
  have hiX0 : ∀ w ∈ wsX00, w ∈ wsX0_areConvex := by decide +kernel
  intro fuel
  induction fuel with
  | zero =>
    intro ix H locs ls hI
    exact absurd hI kk_I0
  | succ fuel ih =>
    intro ix H locs ls hI hF hP hD hS hl
    refine lv_iload_n hx hb dX0_areConvex_2 rfl (lv_at hl 1 rfl) ?_
    refine lv_aload_n hx hb dX0_areConvex_3 rfl (lv_at hl 0 rfl) ?_
    refine va_get (D := D) hx hb hts hiX0 hown hK.1 hP 0 rfl rfl 2 (by decide) (hts (.fieldLink RX0 18 "FencePilot$Corners" "count" "I") (by decide +kernel)) (fun _ h9 => h9) rfl dX0_areConvex_4 ?_
    refine lv_icmp_ge (tgt := 36) hx hb dX0_areConvex_7 (by decide) (fun c_1001 => ?_) (fun c_1001 => ?_)
    · refine lv_iconst (v := 1) hx hb dX0_areConvex_36 (by decide) ?_
      exact kk_rz () hx hb hr hlk dX0_areConvex_37 hS (hP.sub [0, 1, 2] rfl) (hD.sub [0, 1, 2] (by decide) rfl) rfl (by show (1 : Int32) = FIN; rw [hF, g_X0_areConvex_lp]; rw [if_pos c_1001]; try rfl)
    · refine lv_aload_n hx hb dX0_areConvex_10 rfl (lv_at hl 0 rfl) ?_
      refine lv_iload_n hx hb dX0_areConvex_11 rfl (lv_at hl 1 rfl) ?_
      refine kk_cVl (wc := [(q0, .inr (0, [.ref q1, .ref q2, .int cn])), (q1, .inl (cI, 8, .inl fx)), (q2, .inl (cI, 8, .inl fy))]) (wr := []) ⟨hx, hb, hml, hown, hts⟩ hK hP hD hS hA [0, 1, 2] [] (k_X0_squaredLength l D cI cZ q0 q1 q2 H.size cn fx fy ix (by assumption) (kk_IL hI c_1001 hcn.2)) (cwV 1 hts gX0_areConvex_X0_squaredLength rfl rfl rfl (by decide +kernel) ⟨(Nat.le_of_ble_eq_true rfl), (Nat.le_of_ble_eq_true rfl)⟩) rfl rfl (by decide) (by decide) (by decide) 0 0 rfl rfl rfl rfl hl.1 rfl (Nat.le_of_ble_eq_true rfl) dX0_areConvex_12 ⟨(Nat.le_of_ble_eq_true rfl), (Nat.le_of_ble_eq_true rfl)⟩ (fun r_1002 u H locs hw_1003 hP hD hS => ?_)
      have hw_1003 : (f_X0_squaredLength cn fx fy ix) = r_1002 := (hw_1003 : r_1002 = (f_X0_squaredLength cn fx fy ix)).symm
      subst hw_1003
      have hP : va_P D vwCl [(q0, .inr (0, [.ref q1, .ref q2, .int cn])), (q1, .inl (cI, 8, .inl fx)), (q2, .inl (cI, 8, .inl fy))] H := hP
      have hD : va_D A [(q0, .inr (0, [.ref q1, .ref q2, .int cn])), (q1, .inl (cI, 8, .inl fx)), (q2, .inl (cI, 8, .inl fy))] := hD
      refine lv_lconst (v := 0) hx hb dX0_areConvex_15 (by decide) ?_
      refine W.lcmp hx hb dX0_areConvex_16 ?_
      refine lv_if_eq (tgt := 28) hx hb dX0_areConvex_17 (by decide) (fun c_1004 => ?_) (fun c_1004 => ?_)
      · refine lv_iconst (v := 0) hx hb dX0_areConvex_28 (by decide) ?_
        exact kk_rz () hx hb hr hlk dX0_areConvex_29 hS (hP.sub [0, 1, 2] rfl) (hD.sub [0, 1, 2] (by decide) rfl) rfl (by show (0 : Int32) = FIN; rw [hF, g_X0_areConvex_lp]; rw [if_neg c_1001]; rw [if_pos c_1004]; try rfl)
      · refine lv_aload_n hx hb dX0_areConvex_20 rfl (lv_at hl 0 rfl) ?_
        refine lv_iload_n hx hb dX0_areConvex_21 rfl (lv_at hl 1 rfl) ?_
        refine kk_cVi (wc := [(q0, .inr (0, [.ref q1, .ref q2, .int cn])), (q1, .inl (cI, 8, .inl fx)), (q2, .inl (cI, 8, .inl fy))]) (wr := []) ⟨hx, hb, hml, hown, hts⟩ hK hP hD hS hA [0, 1, 2] [] (k_X0_hasOthersInside l D cI cZ q0 q1 q2 H.size cn fx fy ix (by assumption) (kk_IL hI c_1001 hcn.2)) (cwV 1 hts gX0_areConvex_X0_hasOthersInside rfl rfl rfl (by decide +kernel) ⟨(Nat.le_of_ble_eq_true rfl), (Nat.le_of_ble_eq_true rfl)⟩) rfl rfl (by decide) (by decide) (by decide) 0 0 rfl rfl rfl rfl hl.1 rfl (Nat.le_of_ble_eq_true rfl) dX0_areConvex_22 ⟨(Nat.le_of_ble_eq_true rfl), (Nat.le_of_ble_eq_true rfl)⟩ (fun r_1005 u H locs hw_1006 hP hD hS => ?_)
        have hw_1006 : (f_X0_hasOthersInside cn fx fy ix) = r_1005 := (hw_1006 : r_1005 = (f_X0_hasOthersInside cn fx fy ix)).symm
        subst hw_1006
        have hP : va_P D vwCl [(q0, .inr (0, [.ref q1, .ref q2, .int cn])), (q1, .inl (cI, 8, .inl fx)), (q2, .inl (cI, 8, .inl fy))] H := hP
        have hD : va_D A [(q0, .inr (0, [.ref q1, .ref q2, .int cn])), (q1, .inl (cI, 8, .inl fx)), (q2, .inl (cI, 8, .inl fy))] := hD
        refine lv_if_ne (tgt := 30) hx hb dX0_areConvex_25 (by decide) (fun c_1007 => ?_) (fun c_1007 => ?_)
        · refine lv_iinc (v := (ix + 1)) (lv' := [(1, .int (ix + 1)), (0, .ref q0)]) hx hb dX0_areConvex_30 hl (k := 1) rfl (by first | rfl | decide) (by decide) rfl (fun ls hl => ?_)
          refine lv_goto (tgt := 2) hx hb dX0_areConvex_33 (by decide) ?_
          exact ih (ix + 1) _ _ _ (kk_Iup hI c_1001) (by show FIN = (g_X0_areConvex_lp cn fx fy fuel (ix + 1)); rw [hF, g_X0_areConvex_lp]; rw [if_neg c_1001]; rw [if_neg c_1004]; rw [if_neg c_1007]; try rfl) (hP.sub [0, 1, 2] rfl) (hD.sub [0, 1, 2] (by decide) rfl) hS (lv_sub hl [1, 0] rfl)
        · refine lv_iconst (v := 0) hx hb dX0_areConvex_28 (by decide) ?_
          exact kk_rz () hx hb hr hlk dX0_areConvex_29 hS (hP.sub [0, 1, 2] rfl) (hD.sub [0, 1, 2] (by decide) rfl) rfl (by show (0 : Int32) = FIN; rw [hF, g_X0_areConvex_lp]; rw [if_neg c_1001]; rw [if_neg c_1004]; rw [if_pos c_1007]; try rfl)
set_option maxHeartbeats 4000000 in
set_option maxRecDepth 100000 in
theorem k_X0_areConvex (l : Launch) (D : va_G) (cI cZ : ClassId) (q0 : Nat) (q1 : Nat) (q2 : Nat) (sz : Nat) (cn : Int32) (fx : Nat → Int32) (fy : Nat → Int32)  (hcn : kk_L cn 8) : kk_Mi l D cI cZ yX0_areConvex wsX0_areConvex ({ frames := 3, cells := 0, slots := 0, locals := 71 } : Room) [.ref q0] sz [(q0, .inr (0, [.ref q1, .ref q2, .int cn])), (q1, .inl (cI, 8, .inl fx)), (q2, .inl (cI, 8, .inl fy))] (fun (r : Int32) (_ : Unit) => r = f_X0_areConvex cn fx fy) (fun _ => [(q0, .inr (0, [.ref q1, .ref q2, .int cn])), (q1, .inl (cI, 8, .inl fx)), (q2, .inl (cI, 8, .inl fy))]) 0 0 := by
  refine kk_enti (cc := cX0_areConvex) (maxL := 2) (ret := (some .boolean)) (by decide +kernel) rfl (Nat.le_of_ble_eq_true rfl) (fun p e s m args below meth c A ls hX hP hD hS hl => ?_)
  have hX0 := hX
  obtain ⟨hx, hb, hml, hown, hts, hr, hlk, hnm, hK, hA⟩ := hX
  have hown : s.vm.findClass RX0 = some m.cls := hown
  have hiX0 : ∀ w ∈ wsX00, w ∈ wsX0_areConvex := by decide +kernel
  have hl : lv_has ls 2 [(0, .ref q0)] := hl
  refine lv_iconst (v := 0) hx hb dX0_areConvex_0 (by decide) ?_
  refine lv_istore_n (lv' := [(1, .int (0 : Int32)), (0, .ref q0)]) hx hb dX0_areConvex_1 rfl hl (by decide) rfl (fun ls hl => ?_)
  exact lp_X0_areConvex_lp l D cI cZ q0 q1 q2 cn fx fy hcn hX0 (f_X0_areConvex cn fx fy) 9 (0 : Int32) _ _ _ (kk_Ist 9 hcn.1 (Int.lt_of_le_of_lt hcn.2 (by decide))) (by show f_X0_areConvex cn fx fy = (g_X0_areConvex_lp cn fx fy 9 (0 : Int32)); unfold f_X0_areConvex; rfl) (hP.sub [0, 1, 2] rfl) (hD.sub [0, 1, 2] (by decide) rfl) hS (lv_sub hl [1, 0] rfl)
def g_X0_leaveClear_lp (cn : Int32) (fx : Nat → Int32) (fy : Nat → Int32) (x : Int32) (y : Int32) (mg : Int32) : Nat → Int32 → Int32
  | 0, _ => 0
  | fuel + 1, ix => (if cn ≤ ix then (1 : Int32) else (if (f_X0_isClear cn fx fy ix x y mg) = (0 : Int32) then (0 : Int32) else (g_X0_leaveClear_lp cn fx fy x y mg fuel (ix + 1))))
def f_X0_leaveClear (cn : Int32) (fx : Nat → Int32) (fy : Nat → Int32) (x : Int32) (y : Int32) (mg : Int32) : Int32 := (if (f_X0_areEnough cn) = (0 : Int32) then (0 : Int32) else (g_X0_leaveClear_lp cn fx fy x y mg 9 (0 : Int32)))
set_option maxHeartbeats 4000000 in
set_option maxRecDepth 100000 in
theorem lp_X0_leaveClear_lp (l : Launch) (D : va_G) (cI cZ : ClassId) (q0 : Nat) (q1 : Nat) (q2 : Nat) (cn : Int32) (fx : Nat → Int32) (fy : Nat → Int32) (x : Int32) (y : Int32) (mg : Int32) (hcn : kk_L cn 8)  {p : Program} {e : Env} {s : State} {m : MethodId} {args : Array Value} {below : List Frame} {meth : Method} {c : Code} {A : Nat → Prop} (hX : kk_X p s m args meth c cX0_leaveClear 5 (some .boolean) yX0_leaveClear wsX0_leaveClear A D cI cZ) (FIN : Int32)  :
    ∀ (fuel : Nat) (ix : Int32) (H : Heap) (locs : List Loc) (ls : Array Slot), kk_I fuel ix cn → FIN = g_X0_leaveClear_lp cn fx fy x y mg fuel ix → va_P D vwCl [(q0, .inr (0, [.ref q1, .ref q2, .int cn])), (q1, .inl (cI, 8, .inl fx)), (q2, .inl (cI, 8, .inl fy))] H → va_D A [(q0, .inr (0, [.ref q1, .ref q2, .int cn])), (q1, .inl (cI, 8, .inl fx)), (q2, .inl (cI, 8, .inl fy))] → va_S A s.heap H locs → lv_has ls 5 [(0, .ref q0), (1, .int x), (2, .int y), (3, .int mg), (4, .int ix)] → W p l e ({ frames := 3, cells := 0, slots := 0, locals := 75 } : Room) s m args below meth c H locs 0 0 (MQ below (va_Qi (fun (r : Int32) (_ : Unit) => r = FIN) (fun _ t => kk_B D A [(q0, .inr (0, [.ref q1, .ref q2, .int cn])), (q1, .inl (cI, 8, .inl fx)), (q2, .inl (cI, 8, .inl fy))] t) A) args s 0 0 A) (F0 m 12 ls []) := by
  have hX0 := hX
  obtain ⟨hx, hb, hml, hown, hts, hr, hlk, hnm, hK, hA⟩ := hX
  have hown : s.vm.findClass RX0 = some m.cls := hown
  have hiX0 : ∀ w ∈ wsX00, w ∈ wsX0_leaveClear := by decide +kernel
  intro fuel
  induction fuel with
  | zero =>
    intro ix H locs ls hI
    exact absurd hI kk_I0
  | succ fuel ih =>
    intro ix H locs ls hI hF hP hD hS hl
    refine lv_iload hx hb dX0_leaveClear_12 (lv_at hl 4 rfl) ?_
    refine lv_aload_n hx hb dX0_leaveClear_14 rfl (lv_at hl 0 rfl) ?_
    refine va_get (D := D) hx hb hts hiX0 hown hK.1 hP 0 rfl rfl 2 (by decide) (hts (.fieldLink RX0 18 "FencePilot$Corners" "count" "I") (by decide +kernel)) (fun _ h9 => h9) rfl dX0_leaveClear_15 ?_
    refine lv_icmp_ge (tgt := 41) hx hb dX0_leaveClear_18 (by decide) (fun c_1001 => ?_) (fun c_1001 => ?_)
    · refine lv_iconst (v := 1) hx hb dX0_leaveClear_41 (by decide) ?_
      exact kk_rz () hx hb hr hlk dX0_leaveClear_42 hS (hP.sub [0, 1, 2] rfl) (hD.sub [0, 1, 2] (by decide) rfl) rfl (by show (1 : Int32) = FIN; rw [hF, g_X0_leaveClear_lp]; rw [if_pos c_1001]; try rfl)
    · refine lv_aload_n hx hb dX0_leaveClear_21 rfl (lv_at hl 0 rfl) ?_
      refine lv_iload hx hb dX0_leaveClear_22 (lv_at hl 4 rfl) ?_
      refine lv_iload_n hx hb dX0_leaveClear_24 rfl (lv_at hl 1 rfl) ?_
      refine lv_iload_n hx hb dX0_leaveClear_25 rfl (lv_at hl 2 rfl) ?_
      refine lv_iload_n hx hb dX0_leaveClear_26 rfl (lv_at hl 3 rfl) ?_
      refine kk_cVi (wc := [(q0, .inr (0, [.ref q1, .ref q2, .int cn])), (q1, .inl (cI, 8, .inl fx)), (q2, .inl (cI, 8, .inl fy))]) (wr := []) ⟨hx, hb, hml, hown, hts⟩ hK hP hD hS hA [0, 1, 2] [] (k_X0_isClear l D cI cZ q0 q1 q2 H.size cn fx fy ix x y mg (by assumption) (kk_IL hI c_1001 hcn.2)) (cwV 4 hts gX0_leaveClear_X0_isClear rfl rfl rfl (by decide +kernel) ⟨(Nat.le_of_ble_eq_true rfl), (Nat.le_of_ble_eq_true rfl)⟩) rfl rfl (by decide) (by decide) (by decide) 0 0 rfl rfl rfl rfl hl.1 rfl (Nat.le_of_ble_eq_true rfl) dX0_leaveClear_27 ⟨(Nat.le_of_ble_eq_true rfl), (Nat.le_of_ble_eq_true rfl)⟩ (fun r_1002 u H locs hw_1003 hP hD hS => ?_)
      have hw_1003 : (f_X0_isClear cn fx fy ix x y mg) = r_1002 := (hw_1003 : r_1002 = (f_X0_isClear cn fx fy ix x y mg)).symm
      subst hw_1003
      have hP : va_P D vwCl [(q0, .inr (0, [.ref q1, .ref q2, .int cn])), (q1, .inl (cI, 8, .inl fx)), (q2, .inl (cI, 8, .inl fy))] H := hP
      have hD : va_D A [(q0, .inr (0, [.ref q1, .ref q2, .int cn])), (q1, .inl (cI, 8, .inl fx)), (q2, .inl (cI, 8, .inl fy))] := hD
      refine lv_if_ne (tgt := 35) hx hb dX0_leaveClear_30 (by decide) (fun c_1004 => ?_) (fun c_1004 => ?_)
      · refine lv_iinc (v := (ix + 1)) (lv' := [(4, .int (ix + 1)), (0, .ref q0), (1, .int x), (2, .int y), (3, .int mg)]) hx hb dX0_leaveClear_35 hl (k := 4) rfl (by first | rfl | decide) (by decide) rfl (fun ls hl => ?_)
        refine lv_goto (tgt := 12) hx hb dX0_leaveClear_38 (by decide) ?_
        exact ih (ix + 1) _ _ _ (kk_Iup hI c_1001) (by show FIN = (g_X0_leaveClear_lp cn fx fy x y mg fuel (ix + 1)); rw [hF, g_X0_leaveClear_lp]; rw [if_neg c_1001]; rw [if_neg c_1004]; try rfl) (hP.sub [0, 1, 2] rfl) (hD.sub [0, 1, 2] (by decide) rfl) hS (lv_sub hl [1, 2, 3, 4, 0] rfl)
      · refine lv_iconst (v := 0) hx hb dX0_leaveClear_33 (by decide) ?_
        exact kk_rz () hx hb hr hlk dX0_leaveClear_34 hS (hP.sub [0, 1, 2] rfl) (hD.sub [0, 1, 2] (by decide) rfl) rfl (by show (0 : Int32) = FIN; rw [hF, g_X0_leaveClear_lp]; rw [if_neg c_1001]; rw [if_pos c_1004]; try rfl)
set_option maxHeartbeats 4000000 in
set_option maxRecDepth 100000 in
theorem k_X0_leaveClear (l : Launch) (D : va_G) (cI cZ : ClassId) (q0 : Nat) (q1 : Nat) (q2 : Nat) (sz : Nat) (cn : Int32) (fx : Nat → Int32) (fy : Nat → Int32) (x : Int32) (y : Int32) (mg : Int32) (hcn : kk_L cn 8) : kk_Mi l D cI cZ yX0_leaveClear wsX0_leaveClear ({ frames := 3, cells := 0, slots := 0, locals := 75 } : Room) [.ref q0, .int x, .int y, .int mg] sz [(q0, .inr (0, [.ref q1, .ref q2, .int cn])), (q1, .inl (cI, 8, .inl fx)), (q2, .inl (cI, 8, .inl fy))] (fun (r : Int32) (_ : Unit) => r = f_X0_leaveClear cn fx fy x y mg) (fun _ => [(q0, .inr (0, [.ref q1, .ref q2, .int cn])), (q1, .inl (cI, 8, .inl fx)), (q2, .inl (cI, 8, .inl fy))]) 0 0 := by
  refine kk_enti (cc := cX0_leaveClear) (maxL := 5) (ret := (some .boolean)) (by decide +kernel) rfl (Nat.le_of_ble_eq_true rfl) (fun p e s m args below meth c A ls hX hP hD hS hl => ?_)
  have hX0 := hX
  obtain ⟨hx, hb, hml, hown, hts, hr, hlk, hnm, hK, hA⟩ := hX
  have hown : s.vm.findClass RX0 = some m.cls := hown
  have hiX0 : ∀ w ∈ wsX00, w ∈ wsX0_leaveClear := by decide +kernel
  have hl : lv_has ls 5 [(0, .ref q0), (1, .int x), (2, .int y), (3, .int mg)] := hl
  refine lv_aload_n hx hb dX0_leaveClear_0 rfl (lv_at hl 0 rfl) ?_
  refine kk_cVi (wc := [(q0, .inr (0, [.ref q1, .ref q2, .int cn]))]) (wr := [(q1, .inl (cI, 8, .inl fx)), (q2, .inl (cI, 8, .inl fy))]) ⟨hx, hb, hml, hown, hts⟩ hK hP hD hS hA [0] [1, 2] (k_X0_areEnough l D cI cZ q0 q1 q2 s.heap.size cn) (cwV 0 hts gX0_leaveClear_X0_areEnough rfl rfl rfl (by decide +kernel) ⟨(Nat.le_of_ble_eq_true rfl), (Nat.le_of_ble_eq_true rfl)⟩) rfl rfl (by decide) (by decide) (by decide) 0 0 rfl rfl rfl rfl hl.1 rfl (Nat.le_of_ble_eq_true rfl) dX0_leaveClear_1 ⟨(Nat.le_of_ble_eq_true rfl), (Nat.le_of_ble_eq_true rfl)⟩ (fun r_1 u H locs hw_2 hP hD hS => ?_)
  have hw_2 : (f_X0_areEnough cn) = r_1 := (hw_2 : r_1 = (f_X0_areEnough cn)).symm
  subst hw_2
  have hP : va_P D vwCl [(q1, .inl (cI, 8, .inl fx)), (q2, .inl (cI, 8, .inl fy)), (q0, .inr (0, [.ref q1, .ref q2, .int cn]))] H := hP
  have hD : va_D A [(q1, .inl (cI, 8, .inl fx)), (q2, .inl (cI, 8, .inl fy)), (q0, .inr (0, [.ref q1, .ref q2, .int cn]))] := hD
  refine lv_if_ne (tgt := 9) hx hb dX0_leaveClear_4 (by decide) (fun c_3 => ?_) (fun c_3 => ?_)
  · refine lv_iconst (v := 0) hx hb dX0_leaveClear_9 (by decide) ?_
    refine lv_istore (lv' := [(4, .int (0 : Int32)), (0, .ref q0), (1, .int x), (2, .int y), (3, .int mg)]) hx hb dX0_leaveClear_10 hl (by decide) rfl (fun ls hl => ?_)
    exact lp_X0_leaveClear_lp l D cI cZ q0 q1 q2 cn fx fy x y mg hcn hX0 (f_X0_leaveClear cn fx fy x y mg) 9 (0 : Int32) _ _ _ (kk_Ist 9 hcn.1 (Int.lt_of_le_of_lt hcn.2 (by decide))) (by show f_X0_leaveClear cn fx fy x y mg = (g_X0_leaveClear_lp cn fx fy x y mg 9 (0 : Int32)); unfold f_X0_leaveClear; rw [if_neg c_3]; try rfl) (hP.sub [2, 0, 1] rfl) (hD.sub [2, 0, 1] (by decide) rfl) hS (lv_sub hl [1, 2, 3, 4, 0] rfl)
  · refine lv_iconst (v := 0) hx hb dX0_leaveClear_7 (by decide) ?_
    exact kk_rz () hx hb hr hlk dX0_leaveClear_8 hS (hP.sub [2, 0, 1] rfl) (hD.sub [2, 0, 1] (by decide) rfl) rfl (by show (0 : Int32) = f_X0_leaveClear cn fx fy x y mg; unfold f_X0_leaveClear; rw [if_pos c_3]; try rfl)
