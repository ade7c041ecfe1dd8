theorem rv_init : rv_R ((0 : Int32).toInt + 1) (0 : Int32) (0 : Int32) (1 : Int32) (0 : Int32) (0 : Int32) (0 : Int32) (0 : Int32) (0 : Int32) (0 : Int32) (0 : Int32) (0 : Int32) (0 : Int32) (0 : Int32) (0 : Int32) (0 : Int32) 0 0 0 0 0 0 0 0 0 (1 : Int32) 0 0 0 0 0 (fun _ => 0) (fun _ => 0) (fun _ => 0) (fun _ => 0) (fun _ => 0) (fun _ => 0) (fun _ => 0) (fun _ => 0) f_X2_init_arr (fun _ => 0) (fun _ => 0) (fun _ => 0) (fun _ => 0) (fun _ => 0) (fun _ => 0) (fun _ => 0) (fun _ => 0) (fun _ => 0) (fun _ => 0) := by
  refine ⟨⟨rfl, ⟨by decide, by decide⟩, fun j h => absurd h ?_⟩, ⟨rfl, ⟨by decide, by decide⟩, Or.inl rfl, fun j h => absurd h ?_⟩, ⟨⟨by decide, by decide⟩, Or.inl ⟨rfl, rfl⟩⟩, ⟨rfl, rfl, ⟨by decide, by decide⟩, ⟨by decide, by decide⟩, Or.inr (by decide), fun j h => absurd h ?_⟩, ⟨fun j h => ⟨rfl, Or.inl rfl⟩, fun j h => ⟨rfl, (show -20000 ≤ (0 : Int32).toInt by decide), (show (0 : Int32).toInt ≤ 20000 by decide)⟩⟩, ⟨rfl, rfl, Or.inl rfl, ⟨by decide, by decide⟩, Or.inl rfl, fun z => absurd z (by decide), fun z => absurd z (by decide)⟩, ⟨⟨by decide, by decide⟩, ?_⟩, fun j h => rfl, fun j h => rfl, rfl, rfl, rfl, rfl, by decide, by decide⟩
  · rw [Int32.toInt_zero]; omega
  · rw [Int32.toInt_zero]; omega
  · rw [Int32.toInt_zero]; omega
  · intro j hj
    rw [if_neg (by rw [Int32.toInt_zero]; omega)]
    have hj3 : j = 0 ∨ j = 1 ∨ j = 2 ∨ j = 3 ∨ j = 4 ∨ j = 5 ∨ j = 6 ∨ j = 7 ∨ j = 8 ∨ j = 9 ∨ j = 10 ∨ j = 11 ∨ j = 12 ∨ j = 13 ∨ j = 14 ∨ j = 15 := by omega
    rcases hj3 with rfl | rfl | rfl | rfl | rfl | rfl | rfl | rfl | rfl | rfl | rfl | rfl | rfl | rfl | rfl | rfl <;> decide
set_option maxHeartbeats 4000000 in
set_option maxRecDepth 100000 in
/-- the law's loop -/
theorem lw_loop (l : Launch) (D : va_G) (cI cZ : ClassId) (o ga ba ua ma sa la pa wa gqx gqy bqx bqy ui ur mr sr sf lc ro kax kay kai kah kas kap kad kac : Nat) {p : Program} {e : Env} {s : State} {m : MethodId} {below : List Frame} {meth : Method} {c : Code} {b L : Nat} {xs : Nat → Int32} (hC : lw_C p s m meth c b L xs D cI cZ) (hL : L ≤ 2560) :
    ∀ (fuel : Nat) (ix : Int32) (ce he lo si ti gn bn uw us ug up un mn lm lf kg kc ke ki kw ku kn kq kr kl kz kt km kf kh : Int32) (fgx fgy fbx fby fur fmr fsr fsf flc fpl fwi fx fy fi fh fs fp fd fc : Nat → Int32) (H : Heap) (locs : List Loc) (ls : Array Slot), (0 ≤ ix.toInt ∧ ix.toInt ≤ L ∧ (L : Int) < ix.toInt + 5 * fuel) → rv_R (ix.toInt + 1) ce he lo si ti gn bn uw us ug up un mn lm lf kg kc ke ki kw ku kn kq kr kl kz kt km kf kh fgx fgy fbx fby fur fmr fsr fsf flc fpl fwi fx fy fi fh fs fp fd fc → va_P D vwCl [(o, .inr (5, [.ref ga, .ref ba, .ref ua, .ref ma, .ref sa, .ref la, .ref pa, .ref wa, .int ce, .int he, .int lo, .int si, .int ti])), (ga, .inr (0, [.ref gqx, .ref gqy, .int gn])), (gqx, .inl (cI, 8, .inl fgx)), (gqy, .inl (cI, 8, .inl fgy)), (ba, .inr (0, [.ref bqx, .ref bqy, .int bn])), (bqx, .inl (cI, 8, .inl fbx)), (bqy, .inl (cI, 8, .inl fby)), (ua, .inr (4, [.ref ui, .int uw, .int us, .int ug, .int up])), (ui, .inr (1, [.ref ur, .int un])), (ur, .inl (cI, 24, .inl fur)), (ma, .inr (1, [.ref mr, .int mn])), (mr, .inl (cI, 24, .inl fmr)), (sa, .inr (3, [.ref sr, .ref sf])), (sr, .inl (cI, 9, .inl fsr)), (sf, .inl (cZ, 3, .inl fsf)), (la, .inr (2, [.ref lc, .int lm, .int lf])), (lc, .inl (cI, 16, .inl flc)), (pa, .inl (cI, 3, .inl fpl)), (wa, .inl (cI, 3, .inl fwi)), (ro, .inr (6, [.int kg, .int kc, .ref kax, .ref kay, .int ke, .int ki, .ref kai, .int kw, .int ku, .int kn, .int kq, .int kr, .ref kah, .ref kas, .ref kap, .ref kad, .int kl, .int kz, .int kt, .int km, .int kf, .int kh, .ref kac])), (kax, .inl (cI, 16, .inl fx)), (kay, .inl (cI, 16, .inl fy)), (kai, .inl (cI, 48, .inl fi)), (kah, .inl (cZ, 3, .inl fh)), (kas, .inl (cI, 9, .inl fs)), (kap, .inl (cI, 3, .inl fp)), (kad, .inl (cI, 3, .inl fd)), (kac, .inl (cI, 16, .inl fc))] H → va_D (fun q : Nat => s.heap.size ≤ q) [(o, .inr (5, [.ref ga, .ref ba, .ref ua, .ref ma, .ref sa, .ref la, .ref pa, .ref wa, .int ce, .int he, .int lo, .int si, .int ti])), (ga, .inr (0, [.ref gqx, .ref gqy, .int gn])), (gqx, .inl (cI, 8, .inl fgx)), (gqy, .inl (cI, 8, .inl fgy)), (ba, .inr (0, [.ref bqx, .ref bqy, .int bn])), (bqx, .inl (cI, 8, .inl fbx)), (bqy, .inl (cI, 8, .inl fby)), (ua, .inr (4, [.ref ui, .int uw, .int us, .int ug, .int up])), (ui, .inr (1, [.ref ur, .int un])), (ur, .inl (cI, 24, .inl fur)), (ma, .inr (1, [.ref mr, .int mn])), (mr, .inl (cI, 24, .inl fmr)), (sa, .inr (3, [.ref sr, .ref sf])), (sr, .inl (cI, 9, .inl fsr)), (sf, .inl (cZ, 3, .inl fsf)), (la, .inr (2, [.ref lc, .int lm, .int lf])), (lc, .inl (cI, 16, .inl flc)), (pa, .inl (cI, 3, .inl fpl)), (wa, .inl (cI, 3, .inl fwi)), (ro, .inr (6, [.int kg, .int kc, .ref kax, .ref kay, .int ke, .int ki, .ref kai, .int kw, .int ku, .int kn, .int kq, .int kr, .ref kah, .ref kas, .ref kap, .ref kad, .int kl, .int kz, .int kt, .int km, .int kf, .int kh, .ref kac])), (kax, .inl (cI, 16, .inl fx)), (kay, .inl (cI, 16, .inl fy)), (kai, .inl (cI, 48, .inl fi)), (kah, .inl (cZ, 3, .inl fh)), (kas, .inl (cI, 9, .inl fs)), (kap, .inl (cI, 3, .inl fp)), (kad, .inl (cI, 3, .inl fd)), (kac, .inl (cI, 16, .inl fc))] → va_S (fun q : Nat => s.heap.size ≤ q) s.heap H locs → lv_has ls 4 [(3, .int ix), (2, .ref ro), (1, .ref o), (0, .ref b)] → W p l e room_1 s m #[Value.ref b] below meth c H locs 28 284 (lw_Z below #[Value.ref b] s) (F0 m 18 ls []) := by
  have hC0 := hC
  obtain ⟨hx, hb, hr, hml, hown, hts, hX, hbl, hlk, hK⟩ := hC
  have hA : ∀ q : Nat, s.heap.size ≤ q → (fun q : Nat => s.heap.size ≤ q) q := fun _ h => h
  have hbA : ¬ (fun q : Nat => s.heap.size ≤ q) b := Nat.not_le.mpr hbl
  intro fuel
  induction fuel with
  | zero =>
    intro ix ce he lo si ti gn bn uw us ug up un mn lm lf kg kc ke ki kw ku kn kq kr kl kz kt km kf kh fgx fgy fbx fby fur fmr fsr fsf flc fpl fwi fx fy fi fh fs fp fd fc H locs ls hz
    exact absurd hz (by omega)
  | succ fuel ih =>
    intro ix ce he lo si ti gn bn uw us ug up un mn lm lf kg kc ke ki kw ku kn kq kr kl kz kt km kf kh fgx fgy fbx fby fur fmr fsr fsf flc fpl fwi fx fy fi fh fs fp fd fc H locs ls hz hR hP hD hS hl
    refine lv_iload_n hx hb dL_law_18 rfl (lv_at hl 0 rfl) ?_
    refine lv_aload_n hx hb dL_law_19 rfl (lv_at hl 3 rfl) ?_
    refine va_slen hx hb hX hbl hbA hS dL_law_20 ?_
    refine lv_iconst (v := 5) hx hb dL_law_21 (by decide) ?_
    refine lv_isub hx hb dL_law_22 ?_
    refine lv_icmp_gt (tgt := 546) hx hb dL_law_23 (by decide) (fun c_1 => ?_) (fun c_1 => ?_)
    · refine lv_iconst (v := 1) hx hb dL_law_546 (by decide) ?_
      refine va_forget (fun q hq => hS.2.2 q hq) ?_
      refine W.widen (k := 28) (n := 284) (Nat.le_refl 28) (Nat.le_refl 284) ?_
      exact lw_ret hx hb hr hlk dL_law_547
    · have hix : 0 ≤ ix.toInt ∧ ix.toInt + 5 ≤ L := by
        have e1 : (Int32.ofNat L).toInt = (L : Int) := nI_toInt (n := L) (by omega)
        have e2 : (Int32.ofNat L - 5).toInt = (L : Int) - 5 := by
          rw [kk_sub (by rw [e1, show (5 : Int32).toInt = 5 from rfl]; omega) (by rw [e1, show (5 : Int32).toInt = 5 from rfl]; omega), e1]
          rfl
        rw [Int32.lt_iff_toInt_lt, e2] at c_1
        exact ⟨hz.1, by omega⟩
      have e5 : (ix + 5).toInt = ix.toInt + 5 := by
        rw [kk_add (by rw [show (5 : Int32).toInt = 5 from rfl]; omega) (by rw [show (5 : Int32).toInt = 5 from rfl]; omega)]
        rfl
      have kont : lw_K p l e s m below meth c b D cI cZ o ga ba ua ma sa la pa wa gqx gqy bqx bqy ui ur mr sr sf lc ro kax kay kai kah kas kap kad kac ix := by
        intro ce he lo si ti gn bn uw us ug up un mn lm lf kg kc ke ki kw ku kn kq kr kl kz kt km kf kh fgx fgy fbx fby fur fmr fsr fsf flc fpl fwi fx fy fi fh fs fp fd fc H locs ls hR hP hD hS hl
        refine lv_iinc (v := (ix + 5)) (lv' := [(3, .int (ix + 5)), (2, .ref ro), (1, .ref o), (0, .ref b)]) hx hb dL_law_540 hl (k := 0) rfl (by first | rfl | decide) (by decide) rfl (fun ls hl => ?_)
        refine lv_goto (tgt := 18) hx hb dL_law_543 (by decide) ?_
        exact ih (ix + 5) ce he lo si ti gn bn uw us ug up un mn lm lf kg kc ke ki kw ku kn kq kr kl kz kt km kf kh fgx fgy fbx fby fur fmr fsr fsf flc fpl fwi fx fy fi fh fs fp fd fc H locs ls ⟨by omega, by omega, by omega⟩ (rv_mono hR (by omega)) hP hD hS hl
      refine lv_aload_n hx hb dL_law_26 rfl (lv_at hl 3 rfl) ?_
      refine lv_iload_n hx hb dL_law_27 rfl (lv_at hl 0 rfl) ?_
      refine va_sld hx hb hX hbl hbA hS (lw_ix0 hix) dL_law_28 ?_
      refine lv_bipush (v := 31) hx hb dL_law_29 (by decide) ?_
      refine lv_iand hx hb dL_law_31 ?_
      obtain ⟨j, hj, ej⟩ := pk_andE (xs ix.toNatClampNeg) (m := 31) 5 (by decide)
      rw [ej]
      by_cases hj2 : 17 < j
      · refine lv_tableOut (tgt := 540) hx hb dL_law_32 (Or.inr ?_) (by decide) ?_
        · rw [nI_toInt (by omega)]
          omega
        · exact kont ce he lo si ti gn bn uw us ug up un mn lm lf kg kc ke ki kw ku kn kq kr kl kz kt km kf kh fgx fgy fbx fby fur fmr fsr fsf flc fpl fwi fx fy fi fh fs fp fd fc H locs ls (rv_mono hR (by omega)) hP hD hS hl
      · have hj3 : j = 0 ∨ j = 1 ∨ j = 2 ∨ j = 3 ∨ j = 4 ∨ j = 5 ∨ j = 6 ∨ j = 7 ∨ j = 8 ∨ j = 9 ∨ j = 10 ∨ j = 11 ∨ j = 12 ∨ j = 13 ∨ j = 14 ∨ j = 15 ∨ j = 16 ∨ j = 17 := by omega
        rcases hj3 with rfl | rfl | rfl | rfl | rfl | rfl | rfl | rfl | rfl | rfl | rfl | rfl | rfl | rfl | rfl | rfl | rfl | rfl
        · refine lv_tableIn (off := 88) (tgt := 120) hx hb dL_law_32 (by decide) (by decide) (by rfl) (by decide) ?_
          exact lo_corner l D cI cZ o ga ba ua ma sa la pa wa gqx gqy bqx bqy ui ur mr sr sf lc ro kax kay kai kah kas kap kad kac ce he lo si ti gn bn uw us ug up un mn lm lf kg kc ke ki kw ku kn kq kr kl kz kt km kf kh fgx fgy fbx fby fur fmr fsr fsf flc fpl fwi fx fy fi fh fs fp fd fc hC0 ix hix hL hR kont H locs ls hP hD hS hl
        · refine lv_tableIn (off := 121) (tgt := 153) hx hb dL_law_32 (by decide) (by decide) (by rfl) (by decide) ?_
          exact lo_erase l D cI cZ o ga ba ua ma sa la pa wa gqx gqy bqx bqy ui ur mr sr sf lc ro kax kay kai kah kas kap kad kac ce he lo si ti gn bn uw us ug up un mn lm lf kg kc ke ki kw ku kn kq kr kl kz kt km kf kh fgx fgy fbx fby fur fmr fsr fsf flc fpl fwi fx fy fi fh fs fp fd fc hC0 ix hix hL hR kont H locs ls hP hD hS hl
        · refine lv_tableIn (off := 132) (tgt := 164) hx hb dL_law_32 (by decide) (by decide) (by rfl) (by decide) ?_
          exact lo_fence l D cI cZ o ga ba ua ma sa la pa wa gqx gqy bqx bqy ui ur mr sr sf lc ro kax kay kai kah kas kap kad kac ce he lo si ti gn bn uw us ug up un mn lm lf kg kc ke ki kw ku kn kq kr kl kz kt km kf kh fgx fgy fbx fby fur fmr fsr fsf flc fpl fwi fx fy fi fh fs fp fd fc hC0 ix hix hL hR kont H locs ls hP hD hS hl
        · refine lv_tableIn (off := 155) (tgt := 187) hx hb dL_law_32 (by decide) (by decide) (by rfl) (by decide) ?_
          exact lo_upload l D cI cZ o ga ba ua ma sa la pa wa gqx gqy bqx bqy ui ur mr sr sf lc ro kax kay kai kah kas kap kad kac ce he lo si ti gn bn uw us ug up un mn lm lf kg kc ke ki kw ku kn kq kr kl kz kt km kf kh fgx fgy fbx fby fur fmr fsr fsf flc fpl fwi fx fy fi fh fs fp fd fc hC0 ix hix hL hR kont H locs ls hP hD hS hl
        · refine lv_tableIn (off := 178) (tgt := 210) hx hb dL_law_32 (by decide) (by decide) (by rfl) (by decide) ?_
          exact lo_item l D cI cZ o ga ba ua ma sa la pa wa gqx gqy bqx bqy ui ur mr sr sf lc ro kax kay kai kah kas kap kad kac ce he lo si ti gn bn uw us ug up un mn lm lf kg kc ke ki kw ku kn kq kr kl kz kt km kf kh fgx fgy fbx fby fur fmr fsr fsf flc fpl fwi fx fy fi fh fs fp fd fc hC0 ix hix hL hR kont H locs ls hP hD hS hl
        · refine lv_tableIn (off := 231) (tgt := 263) hx hb dL_law_32 (by decide) (by decide) (by rfl) (by decide) ?_
          exact lo_wanted l D cI cZ o ga ba ua ma sa la pa wa gqx gqy bqx bqy ui ur mr sr sf lc ro kax kay kai kah kas kap kad kac ce he lo si ti gn bn uw us ug up un mn lm lf kg kc ke ki kw ku kn kq kr kl kz kt km kf kh fgx fgy fbx fby fur fmr fsr fsf flc fpl fwi fx fy fi fh fs fp fd fc hC0 ix hix hL hR kont H locs ls hP hD hS hl
        · refine lv_tableIn (off := 244) (tgt := 276) hx hb dL_law_32 (by decide) (by decide) (by rfl) (by decide) ?_
          exact lo_sample l D cI cZ o ga ba ua ma sa la pa wa gqx gqy bqx bqy ui ur mr sr sf lc ro kax kay kai kah kas kap kad kac ce he lo si ti gn bn uw us ug up un mn lm lf kg kc ke ki kw ku kn kq kr kl kz kt km kf kh fgx fgy fbx fby fur fmr fsr fsf flc fpl fwi fx fy fi fh fs fp fd fc hC0 ix hix hL hR kont H locs ls hP hD hS hl
        · refine lv_tableIn (off := 297) (tgt := 329) hx hb dL_law_32 (by decide) (by decide) (by rfl) (by decide) ?_
          exact lo_beat l D cI cZ o ga ba ua ma sa la pa wa gqx gqy bqx bqy ui ur mr sr sf lc ro kax kay kai kah kas kap kad kac ce he lo si ti gn bn uw us ug up un mn lm lf kg kc ke ki kw ku kn kq kr kl kz kt km kf kh fgx fgy fbx fby fur fmr fsr fsf flc fpl fwi fx fy fi fh fs fp fd fc hC0 ix hix hL hR kont H locs ls hP hD hS hl
        · refine lv_tableIn (off := 308) (tgt := 340) hx hb dL_law_32 (by decide) (by decide) (by rfl) (by decide) ?_
          exact lo_arm l D cI cZ o ga ba ua ma sa la pa wa gqx gqy bqx bqy ui ur mr sr sf lc ro kax kay kai kah kas kap kad kac ce he lo si ti gn bn uw us ug up un mn lm lf kg kc ke ki kw ku kn kq kr kl kz kt km kf kh fgx fgy fbx fby fur fmr fsr fsf flc fpl fwi fx fy fi fh fs fp fd fc hC0 ix hix hL hR kont H locs ls hP hD hS hl
        · refine lv_tableIn (off := 321) (tgt := 353) hx hb dL_law_32 (by decide) (by decide) (by rfl) (by decide) ?_
          exact lo_command l D cI cZ o ga ba ua ma sa la pa wa gqx gqy bqx bqy ui ur mr sr sf lc ro kax kay kai kah kas kap kad kac ce he lo si ti gn bn uw us ug up un mn lm lf kg kc ke ki kw ku kn kq kr kl kz kt km kf kh fgx fgy fbx fby fur fmr fsr fsf flc fpl fwi fx fy fi fh fs fp fd fc hC0 ix hix hL hR kont H locs ls hP hD hS hl
        · refine lv_tableIn (off := 344) (tgt := 376) hx hb dL_law_32 (by decide) (by decide) (by rfl) (by decide) ?_
          exact lo_tick l D cI cZ o ga ba ua ma sa la pa wa gqx gqy bqx bqy ui ur mr sr sf lc ro kax kay kai kah kas kap kad kac ce he lo si ti gn bn uw us ug up un mn lm lf kg kc ke ki kw ku kn kq kr kl kz kt km kf kh fgx fgy fbx fby fur fmr fsr fsf flc fpl fwi fx fy fi fh fs fp fd fc hC0 ix hix hL hR kont H locs ls hP hD hS hl
        · refine lv_tableIn (off := 367) (tgt := 399) hx hb dL_law_32 (by decide) (by decide) (by rfl) (by decide) ?_
          exact lo_mode l D cI cZ o ga ba ua ma sa la pa wa gqx gqy bqx bqy ui ur mr sr sf lc ro kax kay kai kah kas kap kad kac ce he lo si ti gn bn uw us ug up un mn lm lf kg kc ke ki kw ku kn kq kr kl kz kt km kf kh fgx fgy fbx fby fur fmr fsr fsf flc fpl fwi fx fy fi fh fs fp fd fc hC0 ix hix hL hR kont H locs ls hP hD hS hl
        · refine lv_tableIn (off := 380) (tgt := 412) hx hb dL_law_32 (by decide) (by decide) (by rfl) (by decide) ?_
          exact lo_demand l D cI cZ o ga ba ua ma sa la pa wa gqx gqy bqx bqy ui ur mr sr sf lc ro kax kay kai kah kas kap kad kac ce he lo si ti gn bn uw us ug up un mn lm lf kg kc ke ki kw ku kn kq kr kl kz kt km kf kh fgx fgy fbx fby fur fmr fsr fsf flc fpl fwi fx fy fi fh fs fp fd fc hC0 ix hix hL hR kont H locs ls hP hD hS hl
        · refine lv_tableIn (off := 403) (tgt := 435) hx hb dL_law_32 (by decide) (by decide) (by rfl) (by decide) ?_
          exact lo_position l D cI cZ o ga ba ua ma sa la pa wa gqx gqy bqx bqy ui ur mr sr sf lc ro kax kay kai kah kas kap kad kac ce he lo si ti gn bn uw us ug up un mn lm lf kg kc ke ki kw ku kn kq kr kl kz kt km kf kh fgx fgy fbx fby fur fmr fsr fsf flc fpl fwi fx fy fi fh fs fp fd fc hC0 ix hix hL hR kont H locs ls hP hD hS hl
        · refine lv_tableIn (off := 426) (tgt := 458) hx hb dL_law_32 (by decide) (by decide) (by rfl) (by decide) ?_
          exact lo_lost l D cI cZ o ga ba ua ma sa la pa wa gqx gqy bqx bqy ui ur mr sr sf lc ro kax kay kai kah kas kap kad kac ce he lo si ti gn bn uw us ug up un mn lm lf kg kc ke ki kw ku kn kq kr kl kz kt km kf kh fgx fgy fbx fby fur fmr fsr fsf flc fpl fwi fx fy fi fh fs fp fd fc hC0 ix hix hL hR kont H locs ls hP hD hS hl
        · refine lv_tableIn (off := 439) (tgt := 471) hx hb dL_law_32 (by decide) (by decide) (by rfl) (by decide) ?_
          exact lo_waypoint l D cI cZ o ga ba ua ma sa la pa wa gqx gqy bqx bqy ui ur mr sr sf lc ro kax kay kai kah kas kap kad kac ce he lo si ti gn bn uw us ug up un mn lm lf kg kc ke ki kw ku kn kq kr kl kz kt km kf kh fgx fgy fbx fby fur fmr fsr fsf flc fpl fwi fx fy fi fh fs fp fd fc hC0 ix hix hL hR kont H locs ls hP hD hS hl
        · refine lv_tableIn (off := 452) (tgt := 484) hx hb dL_law_32 (by decide) (by decide) (by rfl) (by decide) ?_
          exact lo_safe l D cI cZ o ga ba ua ma sa la pa wa gqx gqy bqx bqy ui ur mr sr sf lc ro kax kay kai kah kas kap kad kac ce he lo si ti gn bn uw us ug up un mn lm lf kg kc ke ki kw ku kn kq kr kl kz kt km kf kh fgx fgy fbx fby fur fmr fsr fsf flc fpl fwi fx fy fi fh fs fp fd fc hC0 ix hix hL hR kont H locs ls hP hD hS hl
        · refine lv_tableIn (off := 485) (tgt := 517) hx hb dL_law_32 (by decide) (by decide) (by rfl) (by decide) ?_
          exact lo_change l D cI cZ o ga ba ua ma sa la pa wa gqx gqy bqx bqy ui ur mr sr sf lc ro kax kay kai kah kas kap kad kac ce he lo si ti gn bn uw us ug up un mn lm lf kg kc ke ki kw ku kn kq kr kl kz kt km kf kh fgx fgy fbx fby fur fmr fsr fsf flc fpl fwi fx fy fi fh fs fp fd fc hC0 ix hix hL hR kont H locs ls hP hD hS hl
set_option maxHeartbeats 4000000 in
set_option maxRecDepth 100000 in
/-- THE LAW, from its entry -/
theorem whole_start {p : Program} {e : Env} {s : State} {m : MethodId} {below : List Frame} {meth : Method} {c : Code} (l : Launch) {b L : Nat} {xs : Nat → Int32} (hL : L ≤ 2560) (C0 : lw_At p s m meth c b L xs) : W p l e room_1 s m #[Value.ref b] below meth c s.heap [] 0 0 (lw_Z below #[Value.ref b] s) (entryFrame m ([Value.ref b] : List Value).toArray 4) := by
  obtain ⟨hx, hb, hr, hml, hown, hts0, hX, hbl, hlk, hgv⟩ := id C0
  have hts : ∀ w ∈ wsL_law, w.before #[Value.ref b] s = true := fun w h => hts0 w (wsL_law_in w h)
  have hA : ∀ q : Nat, s.heap.size ≤ q → (fun q : Nat => s.heap.size ≤ q) q := fun _ h => h
  have hiX0 : ∀ w ∈ wsX00, w ∈ wsL_law := inlX0
  obtain ⟨c0, iS0, hKn0⟩ := u_known (C := RX0) (T := TX0) (N := 3) (n := 3) hts hiX0 (hts (.instantiable RX0 3) (by decide +kernel))
  have hiX1 : ∀ w ∈ wsX10, w ∈ wsL_law := inlX1
  obtain ⟨c1, iS1, hKn1⟩ := u_known (C := RX1) (T := TX1) (N := 2) (n := 2) hts hiX1 (hts (.instantiable RX1 2) (by decide +kernel))
  have hiX2 : ∀ w ∈ wsX20, w ∈ wsL_law := inlX2
  obtain ⟨c2, iS2, hKn2⟩ := u_known (C := RX2) (T := TX2) (N := 3) (n := 3) hts hiX2 (hts (.instantiable RX2 3) (by decide +kernel))
  have hiX3 : ∀ w ∈ wsX30, w ∈ wsL_law := inlX3
  obtain ⟨c3, iS3, hKn3⟩ := u_known (C := RX3) (T := TX3) (N := 2) (n := 2) hts hiX3 (hts (.instantiable RX3 2) (by decide +kernel))
  have hiX4 : ∀ w ∈ wsX40, w ∈ wsL_law := inlX4
  obtain ⟨c4, iS4, hKn4⟩ := u_known (C := RX4) (T := TX4) (N := 5) (n := 5) hts hiX4 (hts (.instantiable RX4 5) (by decide +kernel))
  have hiX5 : ∀ w ∈ wsX50, w ∈ wsL_law := inlX5
  obtain ⟨c5, iS5, hKn5⟩ := u_known (C := RX5) (T := TX5) (N := 13) (n := 13) hts hiX5 (hts (.instantiable RX5 13) (by decide +kernel))
  have hiX6 : ∀ w ∈ wsX60, w ∈ wsL_law := inlX6
  obtain ⟨c6, iS6, hKn6⟩ := u_known (C := RX6) (T := TX6) (N := 23) (n := 23) hts hiX6 (hts (.instantiable RX6 23) (by decide +kernel))
  obtain ⟨D, hKc⟩ : ∃ D : va_G, ∀ (k : Nat) (q : vw_C), vwCl[k]? = some q → u_Kn s q.1 q.2.1 q.2.2 (D.1 k) (D.2 k) := by
    refine ⟨(fun k => if k = 0 then c0 else if k = 1 then c1 else if k = 2 then c2 else if k = 3 then c3 else if k = 4 then c4 else if k = 5 then c5 else c6, fun k => if k = 0 then iS0 else if k = 1 then iS1 else if k = 2 then iS2 else if k = 3 then iS3 else if k = 4 then iS4 else if k = 5 then iS5 else iS6), ?_⟩
    intro k q hq
    match k, hq with
    | 0, hq => cases hq; exact hKn0
    | 1, hq => cases hq; exact hKn1
    | 2, hq => cases hq; exact hKn2
    | 3, hq => cases hq; exact hKn3
    | 4, hq => cases hq; exact hKn4
    | 5, hq => cases hq; exact hKn5
    | 6, hq => cases hq; exact hKn6
    | k + 7, hq => simp [vwCl] at hq
  obtain ⟨cI, kI, compI, hI1, hI2, hI3⟩ := Cond.arrayClass_spec (hts (.arrayClass .int) (by decide +kernel))
  obtain ⟨cZ, kZ, compZ, hZ1, hZ2, hZ3⟩ := Cond.arrayClass_spec (hts (.arrayClass .boolean) (by decide +kernel))
  have hK1 : va_K D vwCl [(cI, .int), (cZ, .boolean)] s := by
    refine ⟨hKc, fun k q h => ?_⟩
    match k, h with
    | 0, h => cases h; exact ⟨fun n z => ⟨fun k h => (by cases h), kI, hI2, compI, hI3⟩, hI1⟩
    | 1, h => cases h; exact ⟨fun n z => ⟨fun k h => (by cases h), kZ, hZ2, compZ, hZ3⟩, hZ1⟩
    | k + 2, h => simp at h
  have hK : kk_K D cI cZ s := ⟨hK1, va_Nw.of rfl (hts0 _ (by decide +kernel)), va_Nw.of rfl (hts0 _ (by decide +kernel)), va_Nw.of rfl (hts0 _ (by decide +kernel)), va_Nw.of rfl (hts0 _ (by decide +kernel)), va_Nw.of rfl (hts0 _ (by decide +kernel)), va_Nw.of rfl (hts0 _ (by decide +kernel)), va_Nw.of rfl (hts0 _ (by decide +kernel)), va_Nw.of rfl (hts0 _ (by decide +kernel))⟩
  have hown : s.vm.findClass RL = some m.cls := hown
  have hC : lw_C p s m meth c b L xs D cI cZ := ⟨hx, hb, hr, hml, hown, hts, hX, hbl, hlk, hK⟩
  have hS : va_S (fun q : Nat => s.heap.size ≤ q) s.heap s.heap [] := va_S.rf
  have hP : va_P D vwCl [] s.heap := fun k q h => by simp at h
  have hD : va_D (fun q : Nat => s.heap.size ≤ q) [] := ⟨fun i j p q h => by simp at h, fun k q h => by simp at h⟩
  have hl := lv_entry ([.ref b]) (n := 4) (Nat.le_of_ble_eq_true rfl)
  rw [lg_entry_eq]
  generalize (lg_sl ([.ref b]) ++ List.replicate (4 - (lg_sl ([.ref b])).length) Slot.unset).toArray = ls at hl ⊢
  have hl : lv_has ls 4 [(0, .ref b)] := hl
  refine va_new (ci := 5) (fs := [.null, .null, .null, .null, .null, .null, .null, .null, .int 0, .int 0, .int 0, .int 0, .int 0]) (C := RX5) (T := TX5) (N := 13) hx hb hts hiX5 tyX5 tyX5_ok hown (hts (.classLink RL 7 RX5) (by decide +kernel)) (hts (.instantiable RX5 13) (by decide +kernel)) (hts (.initialized RX5) (by decide +kernel)) hK.1 hP hD hS hA rfl (fun j hj => by rcases (show j = 0 ∨ j = 1 ∨ j = 2 ∨ j = 3 ∨ j = 4 ∨ j = 5 ∨ j = 6 ∨ j = 7 ∨ j = 8 ∨ j = 9 ∨ j = 10 ∨ j = 11 ∨ j = 12 by omega) with rfl | rfl | rfl | rfl | rfl | rfl | rfl | rfl | rfl | rfl | rfl | rfl | rfl <;> rfl) (Nat.le_of_ble_eq_true rfl) (Nat.le_of_ble_eq_true rfl) dL_law_0 (fun qo_1 H hP hD hS => ?_)
  have hP : va_P D vwCl [(qo_1, .inr (5, [.null, .null, .null, .null, .null, .null, .null, .null, .int 0, .int 0, .int 0, .int 0, .int 0]))] H := hP
  have hD : va_D (fun q : Nat => s.heap.size ≤ q) [(qo_1, .inr (5, [.null, .null, .null, .null, .null, .null, .null, .null, .int 0, .int 0, .int 0, .int 0, .int 0]))] := hD
  refine lv_dup hx hb dL_law_3 rfl ?_
  refine kk_cIv (wc := [(qo_1, .inr (5, [.null, .null, .null, .null, .null, .null, .null, .null, .int 0, .int 0, .int 0, .int 0, .int 0]))]) (wr := []) ⟨hx, hb, hml, hown, hts⟩ hK hP hD hS hA [0] [] (k_X5_init l D cI cZ qo_1 H.size) (cwI 0 hts gL_law_X5_init rfl rfl rfl (hts (.initialized RX5) (by decide +kernel)) (hts (.methodLink RL 9 yX5_init) (by decide +kernel)) (hts (.instanceMethod yX5_init) (by decide +kernel)) rfl (by decide +kernel) ⟨(Nat.le_of_ble_eq_true rfl), (Nat.le_of_ble_eq_true rfl)⟩) rfl rfl (by decide) (by decide) (by decide) rfl hl.1 rfl (Nat.le_of_ble_eq_true rfl) dL_law_4 ⟨(Nat.le_of_ble_eq_true rfl), (Nat.le_of_ble_eq_true rfl)⟩ (fun u H locs hw_20 hP hD hS => ?_)
  obtain ⟨qb_2, qb_3, qb_4, qb_5, qb_6, qb_7, qb_8, qb_9, qb_10, qb_11, qb_12, qb_13, qb_14, qb_15, qb_16, qb_17, qb_18, qb_19⟩ := u
  have hP : va_P D vwCl [(qo_1, .inr (5, [.ref qb_2, .ref qb_5, .ref qb_8, .ref qb_11, .ref qb_13, .ref qb_16, .ref qb_18, .ref qb_19, .int (0 : Int32), .int (0 : Int32), .int (1 : Int32), .int (0 : Int32), .int (0 : Int32)])), (qb_2, .inr (0, [.ref qb_3, .ref qb_4, .int (0 : Int32)])), (qb_3, .inl (cI, 8, .inl (fun _ => 0))), (qb_4, .inl (cI, 8, .inl (fun _ => 0))), (qb_5, .inr (0, [.ref qb_6, .ref qb_7, .int (0 : Int32)])), (qb_6, .inl (cI, 8, .inl (fun _ => 0))), (qb_7, .inl (cI, 8, .inl (fun _ => 0))), (qb_8, .inr (4, [.ref qb_9, .int (0 : Int32), .int (0 : Int32), .int (0 : Int32), .int (0 : Int32)])), (qb_9, .inr (1, [.ref qb_10, .int (0 : Int32)])), (qb_10, .inl (cI, 24, .inl (fun _ => 0))), (qb_11, .inr (1, [.ref qb_12, .int (0 : Int32)])), (qb_12, .inl (cI, 24, .inl (fun _ => 0))), (qb_13, .inr (3, [.ref qb_14, .ref qb_15])), (qb_14, .inl (cI, 9, .inl (fun _ => 0))), (qb_15, .inl (cZ, 3, .inl (fun _ => 0))), (qb_16, .inr (2, [.ref qb_17, .int (0 : Int32), .int (0 : Int32)])), (qb_17, .inl (cI, 16, .inl f_X2_init_arr)), (qb_18, .inl (cI, 3, .inl (fun _ => 0))), (qb_19, .inl (cI, 3, .inl (fun _ => 0)))] H := hP
  have hD : va_D (fun q : Nat => s.heap.size ≤ q) [(qo_1, .inr (5, [.ref qb_2, .ref qb_5, .ref qb_8, .ref qb_11, .ref qb_13, .ref qb_16, .ref qb_18, .ref qb_19, .int (0 : Int32), .int (0 : Int32), .int (1 : Int32), .int (0 : Int32), .int (0 : Int32)])), (qb_2, .inr (0, [.ref qb_3, .ref qb_4, .int (0 : Int32)])), (qb_3, .inl (cI, 8, .inl (fun _ => 0))), (qb_4, .inl (cI, 8, .inl (fun _ => 0))), (qb_5, .inr (0, [.ref qb_6, .ref qb_7, .int (0 : Int32)])), (qb_6, .inl (cI, 8, .inl (fun _ => 0))), (qb_7, .inl (cI, 8, .inl (fun _ => 0))), (qb_8, .inr (4, [.ref qb_9, .int (0 : Int32), .int (0 : Int32), .int (0 : Int32), .int (0 : Int32)])), (qb_9, .inr (1, [.ref qb_10, .int (0 : Int32)])), (qb_10, .inl (cI, 24, .inl (fun _ => 0))), (qb_11, .inr (1, [.ref qb_12, .int (0 : Int32)])), (qb_12, .inl (cI, 24, .inl (fun _ => 0))), (qb_13, .inr (3, [.ref qb_14, .ref qb_15])), (qb_14, .inl (cI, 9, .inl (fun _ => 0))), (qb_15, .inl (cZ, 3, .inl (fun _ => 0))), (qb_16, .inr (2, [.ref qb_17, .int (0 : Int32), .int (0 : Int32)])), (qb_17, .inl (cI, 16, .inl f_X2_init_arr)), (qb_18, .inl (cI, 3, .inl (fun _ => 0))), (qb_19, .inl (cI, 3, .inl (fun _ => 0)))] := hD
  refine lv_astore_n (lv' := [(1, .ref qo_1), (0, .ref b)]) hx hb dL_law_7 rfl hl (by decide) rfl (fun ls hl => ?_)
  refine va_new (ci := 6) (fs := [.int 0, .int 0, .null, .null, .int 0, .int 0, .null, .int 0, .int 0, .int 0, .int 0, .int 0, .null, .null, .null, .null, .int 0, .int 0, .int 0, .int 0, .int 0, .int 0, .null]) (C := RX6) (T := TX6) (N := 23) hx hb hts hiX6 tyX6 tyX6_ok hown (hts (.classLink RL 10 RX6) (by decide +kernel)) (hts (.instantiable RX6 23) (by decide +kernel)) (hts (.initialized RX6) (by decide +kernel)) hK.1 hP hD hS hA rfl (fun j hj => by rcases (show j = 0 ∨ j = 1 ∨ j = 2 ∨ j = 3 ∨ j = 4 ∨ j = 5 ∨ j = 6 ∨ j = 7 ∨ j = 8 ∨ j = 9 ∨ j = 10 ∨ j = 11 ∨ j = 12 ∨ j = 13 ∨ j = 14 ∨ j = 15 ∨ j = 16 ∨ j = 17 ∨ j = 18 ∨ j = 19 ∨ j = 20 ∨ j = 21 ∨ j = 22 by omega) with rfl | rfl | rfl | rfl | rfl | rfl | rfl | rfl | rfl | rfl | rfl | rfl | rfl | rfl | rfl | rfl | rfl | rfl | rfl | rfl | rfl | rfl | rfl <;> rfl) (Nat.le_of_ble_eq_true rfl) (Nat.le_of_ble_eq_true rfl) dL_law_8 (fun qo_21 H hP hD hS => ?_)
  have hP : va_P D vwCl [(qo_1, .inr (5, [.ref qb_2, .ref qb_5, .ref qb_8, .ref qb_11, .ref qb_13, .ref qb_16, .ref qb_18, .ref qb_19, .int (0 : Int32), .int (0 : Int32), .int (1 : Int32), .int (0 : Int32), .int (0 : Int32)])), (qb_2, .inr (0, [.ref qb_3, .ref qb_4, .int (0 : Int32)])), (qb_3, .inl (cI, 8, .inl (fun _ => 0))), (qb_4, .inl (cI, 8, .inl (fun _ => 0))), (qb_5, .inr (0, [.ref qb_6, .ref qb_7, .int (0 : Int32)])), (qb_6, .inl (cI, 8, .inl (fun _ => 0))), (qb_7, .inl (cI, 8, .inl (fun _ => 0))), (qb_8, .inr (4, [.ref qb_9, .int (0 : Int32), .int (0 : Int32), .int (0 : Int32), .int (0 : Int32)])), (qb_9, .inr (1, [.ref qb_10, .int (0 : Int32)])), (qb_10, .inl (cI, 24, .inl (fun _ => 0))), (qb_11, .inr (1, [.ref qb_12, .int (0 : Int32)])), (qb_12, .inl (cI, 24, .inl (fun _ => 0))), (qb_13, .inr (3, [.ref qb_14, .ref qb_15])), (qb_14, .inl (cI, 9, .inl (fun _ => 0))), (qb_15, .inl (cZ, 3, .inl (fun _ => 0))), (qb_16, .inr (2, [.ref qb_17, .int (0 : Int32), .int (0 : Int32)])), (qb_17, .inl (cI, 16, .inl f_X2_init_arr)), (qb_18, .inl (cI, 3, .inl (fun _ => 0))), (qb_19, .inl (cI, 3, .inl (fun _ => 0))), (qo_21, .inr (6, [.int 0, .int 0, .null, .null, .int 0, .int 0, .null, .int 0, .int 0, .int 0, .int 0, .int 0, .null, .null, .null, .null, .int 0, .int 0, .int 0, .int 0, .int 0, .int 0, .null]))] H := hP
  have hD : va_D (fun q : Nat => s.heap.size ≤ q) [(qo_1, .inr (5, [.ref qb_2, .ref qb_5, .ref qb_8, .ref qb_11, .ref qb_13, .ref qb_16, .ref qb_18, .ref qb_19, .int (0 : Int32), .int (0 : Int32), .int (1 : Int32), .int (0 : Int32), .int (0 : Int32)])), (qb_2, .inr (0, [.ref qb_3, .ref qb_4, .int (0 : Int32)])), (qb_3, .inl (cI, 8, .inl (fun _ => 0))), (qb_4, .inl (cI, 8, .inl (fun _ => 0))), (qb_5, .inr (0, [.ref qb_6, .ref qb_7, .int (0 : Int32)])), (qb_6, .inl (cI, 8, .inl (fun _ => 0))), (qb_7, .inl (cI, 8, .inl (fun _ => 0))), (qb_8, .inr (4, [.ref qb_9, .int (0 : Int32), .int (0 : Int32), .int (0 : Int32), .int (0 : Int32)])), (qb_9, .inr (1, [.ref qb_10, .int (0 : Int32)])), (qb_10, .inl (cI, 24, .inl (fun _ => 0))), (qb_11, .inr (1, [.ref qb_12, .int (0 : Int32)])), (qb_12, .inl (cI, 24, .inl (fun _ => 0))), (qb_13, .inr (3, [.ref qb_14, .ref qb_15])), (qb_14, .inl (cI, 9, .inl (fun _ => 0))), (qb_15, .inl (cZ, 3, .inl (fun _ => 0))), (qb_16, .inr (2, [.ref qb_17, .int (0 : Int32), .int (0 : Int32)])), (qb_17, .inl (cI, 16, .inl f_X2_init_arr)), (qb_18, .inl (cI, 3, .inl (fun _ => 0))), (qb_19, .inl (cI, 3, .inl (fun _ => 0))), (qo_21, .inr (6, [.int 0, .int 0, .null, .null, .int 0, .int 0, .null, .int 0, .int 0, .int 0, .int 0, .int 0, .null, .null, .null, .null, .int 0, .int 0, .int 0, .int 0, .int 0, .int 0, .null]))] := hD
  refine lv_dup hx hb dL_law_11 rfl ?_
  refine kk_cIv (wc := [(qo_21, .inr (6, [.int 0, .int 0, .null, .null, .int 0, .int 0, .null, .int 0, .int 0, .int 0, .int 0, .int 0, .null, .null, .null, .null, .int 0, .int 0, .int 0, .int 0, .int 0, .int 0, .null]))]) (wr := [(qo_1, .inr (5, [.ref qb_2, .ref qb_5, .ref qb_8, .ref qb_11, .ref qb_13, .ref qb_16, .ref qb_18, .ref qb_19, .int (0 : Int32), .int (0 : Int32), .int (1 : Int32), .int (0 : Int32), .int (0 : Int32)])), (qb_2, .inr (0, [.ref qb_3, .ref qb_4, .int (0 : Int32)])), (qb_3, .inl (cI, 8, .inl (fun _ => 0))), (qb_4, .inl (cI, 8, .inl (fun _ => 0))), (qb_5, .inr (0, [.ref qb_6, .ref qb_7, .int (0 : Int32)])), (qb_6, .inl (cI, 8, .inl (fun _ => 0))), (qb_7, .inl (cI, 8, .inl (fun _ => 0))), (qb_8, .inr (4, [.ref qb_9, .int (0 : Int32), .int (0 : Int32), .int (0 : Int32), .int (0 : Int32)])), (qb_9, .inr (1, [.ref qb_10, .int (0 : Int32)])), (qb_10, .inl (cI, 24, .inl (fun _ => 0))), (qb_11, .inr (1, [.ref qb_12, .int (0 : Int32)])), (qb_12, .inl (cI, 24, .inl (fun _ => 0))), (qb_13, .inr (3, [.ref qb_14, .ref qb_15])), (qb_14, .inl (cI, 9, .inl (fun _ => 0))), (qb_15, .inl (cZ, 3, .inl (fun _ => 0))), (qb_16, .inr (2, [.ref qb_17, .int (0 : Int32), .int (0 : Int32)])), (qb_17, .inl (cI, 16, .inl f_X2_init_arr)), (qb_18, .inl (cI, 3, .inl (fun _ => 0))), (qb_19, .inl (cI, 3, .inl (fun _ => 0)))]) ⟨hx, hb, hml, hown, hts⟩ hK hP hD hS hA [19] [0, 1, 2, 3, 4, 5, 6, 7, 8, 9, 10, 11, 12, 13, 14, 15, 16, 17, 18] (k_X6_init l D cI cZ qo_21 H.size) (cwI 0 hts gL_law_X6_init rfl rfl rfl (hts (.initialized RX6) (by decide +kernel)) (hts (.methodLink RL 12 yX6_init) (by decide +kernel)) (hts (.instanceMethod yX6_init) (by decide +kernel)) rfl (by decide +kernel) ⟨(Nat.le_of_ble_eq_true rfl), (Nat.le_of_ble_eq_true rfl)⟩) rfl rfl (by decide) (by decide) (by decide) rfl hl.1 rfl (Nat.le_of_ble_eq_true rfl) dL_law_12 ⟨(Nat.le_of_ble_eq_true rfl), (Nat.le_of_ble_eq_true rfl)⟩ (fun u H locs hw_30 hP hD hS => ?_)
  obtain ⟨qb_22, qb_23, qb_24, qb_25, qb_26, qb_27, qb_28, qb_29⟩ := u
  have hP : va_P D vwCl [(qo_1, .inr (5, [.ref qb_2, .ref qb_5, .ref qb_8, .ref qb_11, .ref qb_13, .ref qb_16, .ref qb_18, .ref qb_19, .int (0 : Int32), .int (0 : Int32), .int (1 : Int32), .int (0 : Int32), .int (0 : Int32)])), (qb_2, .inr (0, [.ref qb_3, .ref qb_4, .int (0 : Int32)])), (qb_3, .inl (cI, 8, .inl (fun _ => 0))), (qb_4, .inl (cI, 8, .inl (fun _ => 0))), (qb_5, .inr (0, [.ref qb_6, .ref qb_7, .int (0 : Int32)])), (qb_6, .inl (cI, 8, .inl (fun _ => 0))), (qb_7, .inl (cI, 8, .inl (fun _ => 0))), (qb_8, .inr (4, [.ref qb_9, .int (0 : Int32), .int (0 : Int32), .int (0 : Int32), .int (0 : Int32)])), (qb_9, .inr (1, [.ref qb_10, .int (0 : Int32)])), (qb_10, .inl (cI, 24, .inl (fun _ => 0))), (qb_11, .inr (1, [.ref qb_12, .int (0 : Int32)])), (qb_12, .inl (cI, 24, .inl (fun _ => 0))), (qb_13, .inr (3, [.ref qb_14, .ref qb_15])), (qb_14, .inl (cI, 9, .inl (fun _ => 0))), (qb_15, .inl (cZ, 3, .inl (fun _ => 0))), (qb_16, .inr (2, [.ref qb_17, .int (0 : Int32), .int (0 : Int32)])), (qb_17, .inl (cI, 16, .inl f_X2_init_arr)), (qb_18, .inl (cI, 3, .inl (fun _ => 0))), (qb_19, .inl (cI, 3, .inl (fun _ => 0))), (qo_21, .inr (6, [.int 0, .int 0, .ref qb_22, .ref qb_23, .int 0, .int 0, .ref qb_24, .int 0, .int 0, .int 0, .int 0, .int 0, .ref qb_25, .ref qb_26, .ref qb_27, .ref qb_28, .int (1 : Int32), .int 0, .int 0, .int 0, .int 0, .int 0, .ref qb_29])), (qb_22, .inl (cI, 16, .inl (fun _ => 0))), (qb_23, .inl (cI, 16, .inl (fun _ => 0))), (qb_24, .inl (cI, 48, .inl (fun _ => 0))), (qb_25, .inl (cZ, 3, .inl (fun _ => 0))), (qb_26, .inl (cI, 9, .inl (fun _ => 0))), (qb_27, .inl (cI, 3, .inl (fun _ => 0))), (qb_28, .inl (cI, 3, .inl (fun _ => 0))), (qb_29, .inl (cI, 16, .inl (fun _ => 0)))] H := hP
  have hD : va_D (fun q : Nat => s.heap.size ≤ q) [(qo_1, .inr (5, [.ref qb_2, .ref qb_5, .ref qb_8, .ref qb_11, .ref qb_13, .ref qb_16, .ref qb_18, .ref qb_19, .int (0 : Int32), .int (0 : Int32), .int (1 : Int32), .int (0 : Int32), .int (0 : Int32)])), (qb_2, .inr (0, [.ref qb_3, .ref qb_4, .int (0 : Int32)])), (qb_3, .inl (cI, 8, .inl (fun _ => 0))), (qb_4, .inl (cI, 8, .inl (fun _ => 0))), (qb_5, .inr (0, [.ref qb_6, .ref qb_7, .int (0 : Int32)])), (qb_6, .inl (cI, 8, .inl (fun _ => 0))), (qb_7, .inl (cI, 8, .inl (fun _ => 0))), (qb_8, .inr (4, [.ref qb_9, .int (0 : Int32), .int (0 : Int32), .int (0 : Int32), .int (0 : Int32)])), (qb_9, .inr (1, [.ref qb_10, .int (0 : Int32)])), (qb_10, .inl (cI, 24, .inl (fun _ => 0))), (qb_11, .inr (1, [.ref qb_12, .int (0 : Int32)])), (qb_12, .inl (cI, 24, .inl (fun _ => 0))), (qb_13, .inr (3, [.ref qb_14, .ref qb_15])), (qb_14, .inl (cI, 9, .inl (fun _ => 0))), (qb_15, .inl (cZ, 3, .inl (fun _ => 0))), (qb_16, .inr (2, [.ref qb_17, .int (0 : Int32), .int (0 : Int32)])), (qb_17, .inl (cI, 16, .inl f_X2_init_arr)), (qb_18, .inl (cI, 3, .inl (fun _ => 0))), (qb_19, .inl (cI, 3, .inl (fun _ => 0))), (qo_21, .inr (6, [.int 0, .int 0, .ref qb_22, .ref qb_23, .int 0, .int 0, .ref qb_24, .int 0, .int 0, .int 0, .int 0, .int 0, .ref qb_25, .ref qb_26, .ref qb_27, .ref qb_28, .int (1 : Int32), .int 0, .int 0, .int 0, .int 0, .int 0, .ref qb_29])), (qb_22, .inl (cI, 16, .inl (fun _ => 0))), (qb_23, .inl (cI, 16, .inl (fun _ => 0))), (qb_24, .inl (cI, 48, .inl (fun _ => 0))), (qb_25, .inl (cZ, 3, .inl (fun _ => 0))), (qb_26, .inl (cI, 9, .inl (fun _ => 0))), (qb_27, .inl (cI, 3, .inl (fun _ => 0))), (qb_28, .inl (cI, 3, .inl (fun _ => 0))), (qb_29, .inl (cI, 16, .inl (fun _ => 0)))] := hD
  refine lv_astore_n (lv' := [(2, .ref qo_21), (1, .ref qo_1), (0, .ref b)]) hx hb dL_law_15 rfl hl (by decide) rfl (fun ls hl => ?_)
  refine lv_iconst (v := 0) hx hb dL_law_16 (by decide) ?_
  refine lv_istore_n (lv' := [(3, .int (0 : Int32)), (2, .ref qo_21), (1, .ref qo_1), (0, .ref b)]) hx hb dL_law_17 rfl hl (by decide) rfl (fun ls hl => ?_)
  exact lw_loop l D cI cZ qo_1 qb_2 qb_5 qb_8 qb_11 qb_13 qb_16 qb_18 qb_19 qb_3 qb_4 qb_6 qb_7 qb_9 qb_10 qb_12 qb_14 qb_15 qb_17 qo_21 qb_22 qb_23 qb_24 qb_25 qb_26 qb_27 qb_28 qb_29 hC hL (L + 1) 0 (0 : Int32) (0 : Int32) (1 : Int32) (0 : Int32) (0 : Int32) (0 : Int32) (0 : Int32) (0 : Int32) (0 : Int32) (0 : Int32) (0 : Int32) (0 : Int32) (0 : Int32) (0 : Int32) (0 : Int32) 0 0 0 0 0 0 0 0 0 (1 : Int32) 0 0 0 0 0 (fun _ => 0) (fun _ => 0) (fun _ => 0) (fun _ => 0) (fun _ => 0) (fun _ => 0) (fun _ => 0) (fun _ => 0) f_X2_init_arr (fun _ => 0) (fun _ => 0) (fun _ => 0) (fun _ => 0) (fun _ => 0) (fun _ => 0) (fun _ => 0) (fun _ => 0) (fun _ => 0) (fun _ => 0) _ _ _ ⟨by decide, by rw [Int32.toInt_zero]; omega, by rw [Int32.toInt_zero]; omega⟩ rv_init (hP.sub [0, 1, 2, 3, 4, 5, 6, 7, 8, 9, 10, 11, 12, 13, 14, 15, 16, 17, 18, 19, 20, 21, 22, 23, 24, 25, 26, 27] rfl) (hD.sub [0, 1, 2, 3, 4, 5, 6, 7, 8, 9, 10, 11, 12, 13, 14, 15, 16, 17, 18, 19, 20, 21, 22, 23, 24, 25, 26, 27] (by decide) rfl) hS (lv_sub hl [0, 1, 2, 3] rfl)
-- ===== YOUR PART ENDS =====
set_option maxHeartbeats 4000000 in
theorem lw_walk (l : Launch) (b : Addr) (xs : List Int32) : MetFree l x (headSpec (Jvm.Cond.code x code maxLocals ret :: tables_1) room_1) (lw_P b xs) (fun _ _ _ _ _ => True) lw_Q := by
  refine MetFree.of_bodyS (code := code) (maxLocals := maxLocals) (ret := ret) (by decide) ?_ ?_
  · intro args s m h hn
    obtain ⟨meth, c, h1, h2, h3, h4, h5, h6, -, -⟩ := Cond.code_spec hn (atoms_spec (ws := Jvm.Cond.code x code maxLocals ret :: tables_1) h _ List.mem_cons_self)
    exact ⟨meth, c, h1, h2, h3, h4, h5, h6⟩
  · intro p e s m args below meth c s₁ B hml0 hP _
    obtain ⟨rfl, hx, hbd, hgv⟩ := hP
    obtain ⟨scr, harrAt, hlist, hof, hsmall⟩ := hx
    obtain ⟨hcb, hkn, -, -⟩ := State.arrayAt?_spec harrAt
    have hown : s.vm.findClass R_law = some m.cls := findClass_of_methodNamed B.named
    have hts0 : ∀ c ∈ (Jvm.Cond.code x code maxLocals ret :: tables_1), c.before #[Value.ref b] s = true := atoms_spec (ws := Jvm.Cond.code x code maxLocals ret :: tables_1) B.pre
    have hts : ∀ w ∈ lw_tbl, w.before #[Value.ref b] s = true := k2_hts_sels lw_privs (fun w hw => hts0 w (List.mem_cons_of_mem _ hw)) lw_privs_ok
    have hml : c.maxLocals = 4 := B.maxLocals_eq (hts0 _ List.mem_cons_self)
    have X₀ : Stand p l e room_1 s m #[Value.ref b] below meth c s₁ [] 0 0 := Stand.of_body B
    have hh0 : s₁.heap = s.heap := by rw [B.state]; rfl
    have hsz : scr.slots.size = xs.length := by rw [← Array.length_toList, hlist, List.length_map]
    have hval : ∀ j : Nat, j < xs.length → scr.slots[j]? = some (.int (xs.getD j 0)) := fun j hj => by
      rw [← Array.getElem?_toList, hlist]
      simp [hj]
    have hbl : b < s.heap.size := (Array.getElem?_eq_some_iff.mp hcb).1
    have hX : va_X b xs.length (fun j => xs.getD j 0) s s.heap := ⟨scr, hcb, hof, hkn, hsz, hval⟩
    have K : W p l e room_1 s m #[Value.ref b] below meth c s₁.heap [] 0 0 (lw_Z below #[Value.ref b] s) (entryFrame m ([Value.ref b] : List Value).toArray 4) := by
      rw [hh0]
      exact whole_start l hbd ⟨B.exec, B.bytes, B.returns, hml, hown, hts, hX, hbl, B.notSynchronized, hgv⟩
    obtain ⟨t, a1, o, b1, b2, b3⟩ := K s₁ rfl X₀
    exact ⟨t, o, a1, b1, b2, b3⟩
theorem lw_pre_spec {args : Array Value} {s : State} (h : (Jvm.Cond.and given_1 narrow_1).before args s = true) (hr : rest_1_c.before args s = true) : ∃ (b : Addr) (xs : List Int32), lw_P b xs args s := by
  have hs := flat_of_before _ h
  have hq := flat_of_before _ hr
  have hc : (Cond.count 1).before args s = true := hs _ (by decide +kernel)
  have harr : (Cond.arrayOf (.arg 0) .int).before args s = true := hs _ (by decide +kernel)
  have hle : (Cond.le (.length (.arg 0)) (.int 2560)).before args s = true := hs _ (by decide +kernel)
  have hlen : (Cond.isInt (.length (.arg 0))).before args s = true := hq _ (by decide +kernel)
  have hall : (Cond.all (.arg 0) (.isInt (.elem (.arg 0) (.index 0)))).before args s = true := hq _ (by decide +kernel)
  obtain ⟨b, xs, hb, hx⟩ := State.ints_of_pre rfl harr hlen hall
  have hsm : xs.length < 2 ^ 31 := hx.choose_spec.2.2.2
  have hev : (Term.length (.arg 0)).eval args s none [] s = some (.int xs.length.toInt32) := hx.length_eval hb
  have hv := Cond.le_ints hev (show (Term.int 2560).eval args s none [] s = some (.int 2560) from rfl)
  have hd : xs.length.toInt32 ≤ 2560 := by
    simpa [Cond.before, Cond.holds, hv] using hle
  have hN : xs.length ≤ 2560 := (Int32.ofNat_le_ofNat hsm (by decide)).mp (show Int32.ofNat xs.length ≤ Int32.ofNat 2560 from hd)
  exact ⟨b, xs, Cond.one_arg hc (show args[0]? = some (.ref b) from hb), hx, hN, h⟩
theorem lw_comes (l : Launch) : Comes l x (Jvm.Cond.code x code maxLocals ret :: tables_1) room_1 (fun tb e args s => Calls_1 tb e args s ∧ rest_1 tb e args s ∧ Pre_1 tb e args s)
    (fun _ _ args s o t => lw_Q args s o t) := by
  intro p e ha hc hk s m args below hf hfit hheap happ hpre
  obtain ⟨b, xs, hP⟩ := lw_pre_spec hpre.2.2 hpre.2.1
  obtain ⟨k, o, h1, h2, h3, hQ⟩ := lw_walk l b xs p e ha hc hk s m args below hf ((Spec.applies_iff_loose hf).mp happ).1 hP trivial
  exact ⟨k, o, h1, h2, h3, hQ⟩
theorem lw_frame {s t : State} {o : Outcome} {args : Array Value} (h : Framed s o t [] 28 284) :
    Framed s o t (fieldLocs frame_1_writes args s ++ arrayLocs frame_1_arrays args s ++ staticLocs frame_1_statics s) 28 284 := h
theorem lw_limb (L : Cond) (hL : ∀ (args : Array Value) (s t : State), L.after args s (.returned (some (.int 1))) t = true) :
    ArmFor flags0 classFile x code maxLocals ret World_1 tables_1 room_1 Calls_1 rest_1 Pre_1
      (fun tb e a s o t => postC L tb e a s o t ∧ Framed s o t (fieldLocs frame_1_writes a s ++ arrayLocs frame_1_arrays a s ++ staticLocs frame_1_statics s) 28 284) := by
  intro l _ _ _ p e ha hc hk s m args below hf hfit hheap happ hpre
  obtain ⟨k, o, h1, h2, h3, rfl, hF⟩ := lw_comes l p e ha hc hk s m args below hf hfit hheap happ hpre
  exact ⟨k, _, h1, h2, h3, hL args s _, lw_frame hF⟩
theorem i_vc : Claimed_1_1 ∧ Claimed_1_2 := ⟨lw_limb limb_1_1 (fun args s t => by simp [limb_1_1, Cond.after, Cond.holds, Cond.value]), lw_limb limb_1_2 (fun args s t => Cond.after_iff.mpr (by
  first | (rw [show limb_1_2 = Cond.eq .result (.int 1) from rfl, Cond.eq_ints (x := 1) (y := 1) rfl rfl]; simp; done) | (simp [limb_1_2, Cond.value, Term.eval]; done)))⟩
