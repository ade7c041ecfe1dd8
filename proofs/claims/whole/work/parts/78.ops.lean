set_option maxHeartbeats 4000000 in
set_option maxRecDepth 100000 in
theorem pl_corner (N : Int) (ce he lo si ti gn bn uw us ug up un mn lm lf kg kc ke ki kw ku kn kq kr kl kz kt km kf kh : Int32) (fgx fgy fbx fby fur fmr fsr fsf flc fpl fwi fx fy fi fh fs fp fd fc : Nat → Int32) (a1 a2 : Int32) (hN : N ≤ 100000) (h : rv_R N ce he lo si ti gn bn uw us ug up un mn lm lf kg kc ke ki kw ku kn kq kr kl kz kt km kf kh fgx fgy fbx fby fur fmr fsr fsf flc fpl fwi fx fy fi fh fs fp fd fc) : (f_X5_corner ce he lo si ti gn fgx fgy a1 a2).1 = (f_X6_corner kg kc ke ki kw ku kn kq kr kl kz kt km kf kh fx fy a1 a2).1 ∧ rv_R (N + 5) ce he lo si ti (f_X5_corner ce he lo si ti gn fgx fgy a1 a2).2.2.2 bn uw us ug up un mn lm lf (f_X6_corner kg kc ke ki kw ku kn kq kr kl kz kt km kf kh fx fy a1 a2).2.2.2 kc ke ki kw ku kn kq kr kl kz kt km kf kh (f_X5_corner ce he lo si ti gn fgx fgy a1 a2).2.1 (f_X5_corner ce he lo si ti gn fgx fgy a1 a2).2.2.1 fbx fby fur fmr fsr fsf flc fpl fwi (f_X6_corner kg kc ke ki kw ku kn kq kr kl kz kt km kf kh fx fy a1 a2).2.1 (f_X6_corner kg kc ke ki kw ku kn kq kr kl kz kt km kf kh fx fy a1 a2).2.2.1 fi fh fs fp fd fc := by
  obtain ⟨h1, h2, h3, h4, h5, h6, h7, h8, h9, h10, h11, h12, h13, h14, h15⟩ := h
  have e1 : gn = kg := h1.1.symm
  subst e1
  have e2 : bn = kc := h2.1.symm
  subst e2
  rw [e5_corner h1.2.1, e6_corner]
  by_cases hc : gn = 8 ∨ f_X6_within a1 (-10000) 10000 = 0 ∨ f_X6_within a2 (-10000) 10000 = 0
  · rw [if_pos hc, if_pos hc]
    exact ⟨rfl, h1, h2, h3, h4, h5, h6, h7, h8, h9, h10, h11, h12, h13, h14, by omega⟩
  · rw [if_neg hc, if_neg hc]
    obtain ⟨q1, q2⟩ := pq_corner (x := a1) (y := a2) h1 h2 (fun z => hc (Or.inl z))
    exact ⟨rfl, q1, q2, h3, h4, h5, h6, h7, h8, h9, h10, h11, h12, h13, h14, by omega⟩
set_option maxHeartbeats 4000000 in
set_option maxRecDepth 100000 in
theorem pl_erase (N : Int) (ce he lo si ti gn bn uw us ug up un mn lm lf kg kc ke ki kw ku kn kq kr kl kz kt km kf kh : Int32) (fgx fgy fbx fby fur fmr fsr fsf flc fpl fwi fx fy fi fh fs fp fd fc : Nat → Int32) (hN : N ≤ 100000) (h : rv_R N ce he lo si ti gn bn uw us ug up un mn lm lf kg kc ke ki kw ku kn kq kr kl kz kt km kf kh fgx fgy fbx fby fur fmr fsr fsf flc fpl fwi fx fy fi fh fs fp fd fc) : rv_R (N + 5) ce he lo si ti (f_X5_erase ce he lo si ti gn) bn uw us ug up un mn lm lf (f_X6_erase kg kc ke ki kw ku kn kq kr kl kz kt km kf kh) kc ke ki kw ku kn kq kr kl kz kt km kf kh fgx fgy fbx fby fur fmr fsr fsf flc fpl fwi fx fy fi fh fs fp fd fc := by
  obtain ⟨h1, h2, h3, h4, h5, h6, h7, h8, h9, h10, h11, h12, h13, h14, h15⟩ := h
  exact ⟨⟨rfl, (show kk_L (0 : Int32) 8 from ⟨by decide, by decide⟩), fun j hj => absurd hj (show ¬ (j : Int) < (0 : Int32).toInt by rw [Int32.toInt_zero]; omega)⟩, h2, h3, h4, h5, h6, h7, h8, h9, h10, h11, h12, h13, h14, by omega⟩
set_option maxHeartbeats 4000000 in
set_option maxRecDepth 100000 in
theorem pl_fence (N : Int) (ce he lo si ti gn bn uw us ug up un mn lm lf kg kc ke ki kw ku kn kq kr kl kz kt km kf kh : Int32) (fgx fgy fbx fby fur fmr fsr fsf flc fpl fwi fx fy fi fh fs fp fd fc : Nat → Int32) (a1 : Int32) (hN : N ≤ 100000) (h : rv_R N ce he lo si ti gn bn uw us ug up un mn lm lf kg kc ke ki kw ku kn kq kr kl kz kt km kf kh fgx fgy fbx fby fur fmr fsr fsf flc fpl fwi fx fy fi fh fs fp fd fc) : (f_X5_fence ce he lo si ti gn fgx fgy bn fbx fby lm lf a1).1 = (f_X6_fence kg kc ke ki kw ku kn kq kr kl kz kt km kf kh fx fy a1).1 ∧ rv_R (N + 5) (f_X5_fence ce he lo si ti gn fgx fgy bn fbx fby lm lf a1).2.2.2.2.1 he lo si ti (f_X5_fence ce he lo si ti gn fgx fgy bn fbx fby lm lf a1).2.2.2.2.2 (f_X5_fence ce he lo si ti gn fgx fgy bn fbx fby lm lf a1).2.2.2.1 uw us ug up un mn lm lf (f_X6_fence kg kc ke ki kw ku kn kq kr kl kz kt km kf kh fx fy a1).2.2.2.1 (f_X6_fence kg kc ke ki kw ku kn kq kr kl kz kt km kf kh fx fy a1).2.2.2.2.1 (f_X6_fence kg kc ke ki kw ku kn kq kr kl kz kt km kf kh fx fy a1).2.2.2.2.2 ki kw ku kn kq kr kl kz kt km kf kh fgx fgy (f_X5_fence ce he lo si ti gn fgx fgy bn fbx fby lm lf a1).2.1 (f_X5_fence ce he lo si ti gn fgx fgy bn fbx fby lm lf a1).2.2.1 fur fmr fsr fsf flc fpl fwi (f_X6_fence kg kc ke ki kw ku kn kq kr kl kz kt km kf kh fx fy a1).2.1 (f_X6_fence kg kc ke ki kw ku kn kq kr kl kz kt km kf kh fx fy a1).2.2.1 fi fh fs fp fd fc := by
  obtain ⟨h1, h2, h3, h4, h5, h6, h7, h8, h9, h10, h11, h12, h13, h14, h15⟩ := h
  have e1 : lm = km := h6.1.symm
  subst e1
  have e2 : gn = kg := h1.1.symm
  subst e2
  have e3 : bn = kc := h2.1.symm
  subst e3
  unfold f_X5_fence f_X6_fence
  by_cases c1 : lm = 0
  · rw [if_pos c1, if_pos c1]
    by_cases c2 : f_X0_areEnough gn = 0
    · have c3 : ¬ (3 : Int32) ≤ gn := by
        intro z
        rw [Int32.le_iff_toInt_le, show (3 : Int32).toInt = 3 from rfl] at z
        exact pg_enough z c2
      rw [if_pos c2, if_neg c3]
      exact ⟨rfl, h1, h2, h3, h4, h5, h6, h7, h8, h9, h10, h11, h12, h13, h14, by omega⟩
    · have c3 : 3 ≤ gn.toInt := by
        unfold f_X0_areEnough at c2
        by_cases z : gn < 3
        · rw [if_pos z] at c2
          exact absurd rfl c2
        · rw [Int32.lt_iff_toInt_lt, show (3 : Int32).toInt = 3 from rfl] at z
          omega
      have hC : pg_C 0 gn fgx fgy fx fy := fun j hj => by rw [Nat.zero_add]; exact h1.2.2 j hj
      rw [if_neg c2, if_pos (show (3 : Int32) ≤ gn by rw [Int32.le_iff_toInt_le]; exact c3), pg_convex hC h1.2.1.1 h1.2.1.2, pg_cl (mg := 1000) hC rfl (by omega) h1.2.1.2 c3 0 0 1000 (by decide), kk_wi6]
      by_cases c4 : f_X0_areConvex gn fgx fgy = 0
      · rw [if_pos c4, if_pos c4]
        exact ⟨rfl, h1, h2, h3, h4, h5, h6, h7, h8, h9, h10, h11, h12, h13, h14, by omega⟩
      · rw [if_neg c4, if_neg c4]
        by_cases c5 : f_X0_leaveClear gn fgx fgy 0 0 1000 = 0
        · rw [if_pos c5, if_pos c5]
          exact ⟨rfl, h1, h2, h3, h4, h5, h6, h7, h8, h9, h10, h11, h12, h13, h14, by omega⟩
        · rw [if_neg c5, if_neg c5]
          by_cases c6 : f_X5_isWithin a1 1500 10000 = 0
          · rw [if_pos c6, if_pos c6]
            exact ⟨rfl, h1, h2, h3, h4, h5, h6, h7, h8, h9, h10, h11, h12, h13, h14, by omega⟩
          · rw [if_neg c6, if_neg c6]
            have hI : kk_I 9 0 gn := kk_Ist 9 h1.2.1.1 (by have := h1.2.1.2; omega)
            obtain ⟨X, Y, q1, q2, q3⟩ := pc_copy (cn := bn) (fx := fbx) (fy := fby) (gx := fgx) (gy := fgy) 9 0 fbx fby hI
            obtain ⟨X6, Y6, r1, r2, r3⟩ := pc_fence (kc := bn) (ke := ke) (ki := ki) (kw := kw) (ku := ku) (kn := kn) (kq := kq) (kr := kr) (kl := kl) (kz := kz) (kt := kt) (km := lm) (kf := kf) (kh := kh) (cl := a1) (fx := fx) (fy := fy) h1.2.1.2 9 0 fx fy hI
            rw [show f_X0_copyFrom bn fbx fby gn fgx fgy = (X, Y, gn) from q1, r1]
            refine ⟨rfl, ⟨rfl, (show kk_L (0 : Int32) 8 from ⟨by decide, by decide⟩), fun j hj => absurd hj (show ¬ (j : Int) < (0 : Int32).toInt by rw [Int32.toInt_zero]; omega)⟩, ⟨rfl, h1.2.1, Or.inr c3, fun j hj => ?_⟩, h3, h4, h5, ⟨rfl, h6.2.1, h6.2.2.1, h6.2.2.2.1, Or.inl c1, h6.2.2.2.2.2.1, h6.2.2.2.2.2.2⟩, h7, h8, h9, rfl, h11, h12, h13, h14, by omega⟩
            obtain ⟨t1, t2⟩ := r3 j (Nat.zero_le j) hj
            obtain ⟨s1, s2⟩ := q3 j (Nat.zero_le j) hj
            obtain ⟨g1, g2⟩ := h1.2.2 j hj
            exact ⟨t1.trans (g1.trans s1.symm), t2.trans (g2.trans s2.symm)⟩
  · rw [if_neg c1, if_neg c1]
    exact ⟨rfl, h1, h2, h3, h4, h5, h6, h7, h8, h9, h10, h11, h12, h13, h14, by omega⟩
set_option maxHeartbeats 4000000 in
set_option maxRecDepth 100000 in
theorem pl_upload (N : Int) (ce he lo si ti gn bn uw us ug up un mn lm lf kg kc ke ki kw ku kn kq kr kl kz kt km kf kh : Int32) (fgx fgy fbx fby fur fmr fsr fsf flc fpl fwi fx fy fi fh fs fp fd fc : Nat → Int32) (a1 : Int32) (hN : N ≤ 100000) (h : rv_R N ce he lo si ti gn bn uw us ug up un mn lm lf kg kc ke ki kw ku kn kq kr kl kz kt km kf kh fgx fgy fbx fby fur fmr fsr fsf flc fpl fwi fx fy fi fh fs fp fd fc) : (f_X5_upload ce he lo si ti uw us ug up un a1).1 = (f_X6_upload kg kc ke ki kw ku kn kq kr kl kz kt km kf kh a1).1 ∧ rv_R (N + 5) ce he lo si ti gn bn (f_X5_upload ce he lo si ti uw us ug up un a1).2.1 (f_X5_upload ce he lo si ti uw us ug up un a1).2.2.1 (f_X5_upload ce he lo si ti uw us ug up un a1).2.2.2.1 (f_X5_upload ce he lo si ti uw us ug up un a1).2.2.2.2.1 (f_X5_upload ce he lo si ti uw us ug up un a1).2.2.2.2.2 mn lm lf kg kc ke ki kw (f_X6_upload kg kc ke ki kw ku kn kq kr kl kz kt km kf kh a1).2.1 (f_X6_upload kg kc ke ki kw ku kn kq kr kl kz kt km kf kh a1).2.2.1 (f_X6_upload kg kc ke ki kw ku kn kq kr kl kz kt km kf kh a1).2.2.2.1 (f_X6_upload kg kc ke ki kw ku kn kq kr kl kz kt km kf kh a1).2.2.2.2 kl kz kt km kf kh fgx fgy fbx fby fur fmr fsr fsf flc fpl fwi fx fy fi fh fs fp fd fc := by
  obtain ⟨h1, h2, h3, h4, h5, h6, h7, h8, h9, h10, h11, h12, h13, h14, h15⟩ := h
  unfold f_X5_upload f_X6_upload
  rw [kk_wi6]
  by_cases hc : f_X5_isWithin a1 1 8 = 0
  · rw [if_pos hc, if_pos hc]
    exact ⟨rfl, h1, h2, h3, h4, h5, h6, h7, h8, h9, h10, h11, h12, h13, h14, by omega⟩
  · rw [if_neg hc, if_neg hc]
    obtain ⟨r1, r2⟩ := pw_rng (v := a1) (lo := 1) (hi := 8) hc
    rw [show (1 : Int32).toInt = 1 from rfl] at r1
    rw [show (8 : Int32).toInt = 8 from rfl] at r2
    exact ⟨rfl, h1, h2, ⟨(show kk_L (0 : Int32) 8 from ⟨by decide, by decide⟩), Or.inr ⟨rfl, rfl, rfl, rfl, rfl, r1, r2, (show (0 : Int32).toInt < a1.toInt by rw [Int32.toInt_zero]; omega), (show kk_L (0 : Int32) 9 from ⟨by decide, by decide⟩), (show kk_L (0 : Int32) 2 from ⟨by decide, by decide⟩), fun j hj => absurd hj (show ¬ (j : Int) < 3 * (0 : Int32).toInt by rw [Int32.toInt_zero]; omega)⟩⟩, h4, h5, h6, h7, h8, h9, h10, h11, h12, h13, h14, by omega⟩
set_option maxHeartbeats 4000000 in
set_option maxRecDepth 100000 in
theorem pl_item (N : Int) (ce he lo si ti gn bn uw us ug up un mn lm lf kg kc ke ki kw ku kn kq kr kl kz kt km kf kh : Int32) (fgx fgy fbx fby fur fmr fsr fsf flc fpl fwi fx fy fi fh fs fp fd fc : Nat → Int32) (a1 a2 a3 a4 : Int32) (hN : N ≤ 100000) (h : rv_R N ce he lo si ti gn bn uw us ug up un mn lm lf kg kc ke ki kw ku kn kq kr kl kz kt km kf kh fgx fgy fbx fby fur fmr fsr fsf flc fpl fwi fx fy fi fh fs fp fd fc) : (f_X5_item ce he lo si ti uw us ug up un fur mn fmr a1 a2 a3 a4).1 = (f_X6_item kg kc ke ki kw ku kn kq kr kl kz kt km kf kh fi a1 a2 a3 a4).1 ∧ rv_R (N + 5) ce (f_X5_item ce he lo si ti uw us ug up un fur mn fmr a1 a2 a3 a4).2.1 lo si ti gn bn (f_X5_item ce he lo si ti uw us ug up un fur mn fmr a1 a2 a3 a4).2.2.1 us (f_X5_item ce he lo si ti uw us ug up un fur mn fmr a1 a2 a3 a4).2.2.2.1 (f_X5_item ce he lo si ti uw us ug up un fur mn fmr a1 a2 a3 a4).2.2.2.2.1 (f_X5_item ce he lo si ti uw us ug up un fur mn fmr a1 a2 a3 a4).2.2.2.2.2.1 (f_X5_item ce he lo si ti uw us ug up un fur mn fmr a1 a2 a3 a4).2.2.2.2.2.2.2.1 lm lf kg kc ke (f_X6_item kg kc ke ki kw ku kn kq kr kl kz kt km kf kh fi a1 a2 a3 a4).2.2.1 (f_X6_item kg kc ke ki kw ku kn kq kr kl kz kt km kf kh fi a1 a2 a3 a4).2.2.2.1 (f_X6_item kg kc ke ki kw ku kn kq kr kl kz kt km kf kh fi a1 a2 a3 a4).2.2.2.2.1 (f_X6_item kg kc ke ki kw ku kn kq kr kl kz kt km kf kh fi a1 a2 a3 a4).2.2.2.2.2.1 (f_X6_item kg kc ke ki kw ku kn kq kr kl kz kt km kf kh fi a1 a2 a3 a4).2.2.2.2.2.2.1 (f_X6_item kg kc ke ki kw ku kn kq kr kl kz kt km kf kh fi a1 a2 a3 a4).2.2.2.2.2.2.2 kl kz kt km kf kh fgx fgy fbx fby (f_X5_item ce he lo si ti uw us ug up un fur mn fmr a1 a2 a3 a4).2.2.2.2.2.2.1 (f_X5_item ce he lo si ti uw us ug up un fur mn fmr a1 a2 a3 a4).2.2.2.2.2.2.2.2 fsr fsf flc fpl fwi fx fy (f_X6_item kg kc ke ki kw ku kn kq kr kl kz kt km kf kh fi a1 a2 a3 a4).2.1 fh fs fp fd fc := by
  obtain ⟨h1, h2, h3, h4, h5, h6, h7, h8, h9, h10, h11, h12, h13, h14, h15⟩ := h
  unfold f_X5_item f_X6_item f_X4_next
  have h3o := h3
  obtain ⟨u0, u1⟩ := h3
  rcases u1 with ⟨b1, b2⟩ | ⟨b1, b2, b3, b4, b5, b6, b7, b8, b9, b10, b11⟩
  · rw [if_pos b1, if_pos b2]
    exact ⟨rfl, h1, h2, h3o, h4, h5, h6, h7, h8, h9, h10, h11, h12, h13, h14, by omega⟩
  · have e1 : us = ku := b2.symm
    subst e1
    have e2 : un = kn := b3.symm
    subst e2
    rw [if_neg (show ¬ uw = 0 by rw [b1]; decide), if_neg (show ¬ us = 0 from pn_ne (n := 0) (by omega) 0 rfl)]
    by_cases c1 : f_X5_isOnMap a2 a3 = 0
    · rw [if_pos c1]
      by_cases z1 : f_X6_within a2 (-10000) 10000 = 0
      · rw [if_pos z1]
        exact ⟨rfl, h1, h2, h3o, h4, h5, h6, h7, h8, h9, h10, h11, h12, h13, h14, by omega⟩
      · rw [if_neg z1, if_pos (((pw_map a2 a3).mp c1).resolve_left z1)]
        exact ⟨rfl, h1, h2, h3o, h4, h5, h6, h7, h8, h9, h10, h11, h12, h13, h14, by omega⟩
    · rw [if_neg c1, if_neg (fun z => c1 ((pw_map a2 a3).mpr (Or.inl z))), if_neg (fun z => c1 ((pw_map a2 a3).mpr (Or.inr z))), kk_wi6]
      by_cases c2 : f_X5_isWithin a4 500 10000 = 0
      · rw [if_pos c2, if_pos c2]
        exact ⟨rfl, h1, h2, h3o, h4, h5, h6, h7, h8, h9, h10, h11, h12, h13, h14, by omega⟩
      · rw [if_neg c2, if_neg c2]
        by_cases c3 : a1 = un
        · subst c3
          rw [if_pos rfl, if_pos rfl]
          have hu7 : kk_L a1 7 := ⟨u0.1, by omega⟩
          have e8 : ¬ (8 : Int32) ≤ a1 := by
            rw [Int32.le_iff_toInt_le, show (8 : Int32).toInt = 8 from rfl]
            omega
          have ei : (a1 + 1).toInt = a1.toInt + 1 := kk_add (by rw [show (1 : Int32).toInt = 1 from rfl]; have := u0.1; omega) (by rw [show (1 : Int32).toInt = 1 from rfl]; omega)
          have ek : f_X4_keep uw us ug up a1 fur a2 a3 a4 = ((upd (upd (upd fur ((a1 * 3) + 0).toNatClampNeg a2) ((a1 * 3) + 1).toNatClampNeg a3) ((a1 * 3) + 2).toNatClampNeg a4), a1 + 1, 0, 0) := by
            unfold f_X4_keep f_X1_add
            rw [if_neg e8]
          rw [ek]
          obtain ⟨k1, k2⟩ := pi_keep hu7 h4.2.2.1.2 b11 h4.2.2.2.2.2 a2 a3 a4
          unfold f_X4_isComplete
          by_cases c4 : us ≤ a1 + 1
          · have c5 : ¬ a1 + 1 < us := Int32.not_lt.mpr c4
            rw [if_pos c4]
            dsimp only
            rw [if_neg c5, if_neg (show ¬ (1 : Int32) = 0 by decide)]
            have eu : us = a1 + 1 := by
              rw [Int32.le_iff_toInt_le, ei] at c4
              exact pn_inj (by rw [ei]; omega)
            obtain ⟨X, r1, r2, r3⟩ := pc_item (kg := kg) (kc := kc) (ke := ke) (ki := ki) (kw := kw) (ku := us) (kn := a1) (kq := kq) (kr := kr) (kl := kl) (kz := kz) (kt := kt) (km := km) (kf := kf) (kh := kh) (k := a1) (x := a2) (y := a3) (z := a4) (fi := fi) 25 0 (upd (upd (upd fi (24 + (3 * a1)).toNatClampNeg a2) (25 + (3 * a1)).toNatClampNeg a3) (26 + (3 * a1)).toNatClampNeg a4) (kk_Ist 25 (by decide) (by decide))
            rw [r1]
            refine ⟨rfl, h1, h2, ⟨(show kk_L (a1 + 1) 8 from ⟨by have := u0.1; omega, by omega⟩), Or.inl ⟨rfl, rfl⟩⟩, ⟨eu, rfl, (show kk_L (a1 + 1) 8 from ⟨by have := u0.1; omega, by omega⟩), (show kk_L (0 : Int32) 7 from ⟨by decide, by decide⟩), Or.inr (show (0 : Int32).toInt = 0 by decide), fun j hj => ?_⟩, h5, ⟨h6.1, h6.2.1, h6.2.2.1, h6.2.2.2.1, h6.2.2.2.2.1, fun _ => (show 1 ≤ (a1 + 1).toInt by have := u0.1; omega), h6.2.2.2.2.2.2⟩, h7, h8, h9, h10, h11, h12, h13, h14, by omega⟩
            have hj2 : (j : Int) < 3 * (a1 + 1).toInt := hj
            have hj3 : j < 24 := by omega
            have t1 := r3 j (Nat.zero_le j) hj3
            have t2 := k1 j hj2
            exact t1.trans (t2.trans (pk_cpy_in (f := (upd (upd (upd fur ((a1 * 3) + 0).toNatClampNeg a2) ((a1 * 3) + 1).toNatClampNeg a3) ((a1 * 3) + 2).toNatClampNeg a4)) (g := fmr) (sp := 0) (dp := 0) (n := 24) (Nat.zero_le j) (by omega) |>.trans (by rw [Nat.zero_add]; rfl)).symm)
          · have c5 : a1 + 1 < us := Int32.not_le.mp c4
            rw [if_neg c4]
            dsimp only
            rw [if_pos c5, if_pos rfl]
            have c6 := c5
            rw [Int32.lt_iff_toInt_lt] at c6
            exact ⟨rfl, h1, h2, ⟨(show kk_L (a1 + 1) 8 from ⟨by have := u0.1; omega, by omega⟩), Or.inr ⟨b1, rfl, rfl, rfl, rfl, b6, b7, c6, (show kk_L (0 : Int32) 9 from ⟨by decide, by decide⟩), (show kk_L (0 : Int32) 2 from ⟨by decide, by decide⟩), k1⟩⟩, ⟨h4.1, h4.2.1, h4.2.2.1, h4.2.2.2.1, h4.2.2.2.2.1, k2⟩, h5, h6, h7, h8, h9, h10, h11, h12, h13, h14, by omega⟩
        · rw [if_neg c3, if_neg c3]
          exact ⟨rfl, h1, h2, h3o, h4, h5, h6, h7, h8, h9, h10, h11, h12, h13, h14, by omega⟩
set_option maxHeartbeats 4000000 in
set_option maxRecDepth 100000 in
theorem pl_wanted (N : Int) (ce he lo si ti gn bn uw us ug up un mn lm lf kg kc ke ki kw ku kn kq kr kl kz kt km kf kh : Int32) (fgx fgy fbx fby fur fmr fsr fsf flc fpl fwi fx fy fi fh fs fp fd fc : Nat → Int32) (hN : N ≤ 100000) (h : rv_R N ce he lo si ti gn bn uw us ug up un mn lm lf kg kc ke ki kw ku kn kq kr kl kz kt km kf kh fgx fgy fbx fby fur fmr fsr fsf flc fpl fwi fx fy fi fh fs fp fd fc) : (f_X5_wanted ce he lo si ti uw us ug up un) = (f_X6_wanted kg kc ke ki kw ku kn kq kr kl kz kt km kf kh) := by
  obtain ⟨h1, h2, h3, h4, h5, h6, h7, h8, h9, h10, h11, h12, h13, h14, h15⟩ := h
  unfold f_X5_wanted f_X6_wanted f_X4_next
  rcases h3.2 with ⟨b1, b2⟩ | ⟨b1, b2, b3, b4, b5, b6, b7, b8, b9, b10, b11⟩
  · rw [if_pos b1, if_pos b2]
  · rw [if_neg (by rw [b1]; decide), if_neg (by rw [b2]; exact pn_ne (n := 0) (by omega) 0 rfl)]
    exact b3.symm
set_option maxHeartbeats 4000000 in
set_option maxRecDepth 100000 in
theorem pl_sample (N : Int) (ce he lo si ti gn bn uw us ug up un mn lm lf kg kc ke ki kw ku kn kq kr kl kz kt km kf kh : Int32) (fgx fgy fbx fby fur fmr fsr fsf flc fpl fwi fx fy fi fh fs fp fd fc : Nat → Int32) (a1 a2 a3 a4 : Int32) (hN : N ≤ 100000) (h : rv_R N ce he lo si ti gn bn uw us ug up un mn lm lf kg kc ke ki kw ku kn kq kr kl kz kt km kf kh fgx fgy fbx fby fur fmr fsr fsf flc fpl fwi fx fy fi fh fs fp fd fc) : (f_X5_sample ce he lo si ti fsr fsf a1 a2 a3 a4).1 = (f_X6_sample kg kc ke ki kw ku kn kq kr kl kz kt km kf kh fh fs a1 a2 a3 a4).1 ∧ rv_R (N + 5) ce he lo si ti gn bn uw us ug up un mn lm lf kg kc ke ki kw ku kn kq kr kl kz kt km kf kh fgx fgy fbx fby fur fmr (f_X5_sample ce he lo si ti fsr fsf a1 a2 a3 a4).2.1 (f_X5_sample ce he lo si ti fsr fsf a1 a2 a3 a4).2.2 flc fpl fwi fx fy fi (f_X6_sample kg kc ke ki kw ku kn kq kr kl kz kt km kf kh fh fs a1 a2 a3 a4).2.1 (f_X6_sample kg kc ke ki kw ku kn kq kr kl kz kt km kf kh fh fs a1 a2 a3 a4).2.2 fp fd fc := by
  obtain ⟨h1, h2, h3, h4, h5, h6, h7, h8, h9, h10, h11, h12, h13, h14, h15⟩ := h
  unfold f_X5_sample f_X6_sample
  rw [kk_wi6 a1 0 2, kk_wi6 a4]
  by_cases hc1 : f_X5_isWithin a1 0 2 = 0
  · rw [if_pos hc1, if_pos hc1]
    exact ⟨rfl, h1, h2, h3, h4, h5, h6, h7, h8, h9, h10, h11, h12, h13, h14, by omega⟩
  · rw [if_neg hc1, if_neg hc1]
    by_cases hc2 : f_X5_isInSensorReach a2 a3 = 0
    · rw [if_pos hc2]
      rcases (pw_reach a2 a3).mp hc2 with z | z
      · rw [if_pos z]
        exact ⟨rfl, h1, h2, h3, h4, h5, h6, h7, h8, h9, h10, h11, h12, h13, h14, by omega⟩
      · by_cases z2 : f_X6_within a2 (-20000) 20000 = 0
        · rw [if_pos z2]
          exact ⟨rfl, h1, h2, h3, h4, h5, h6, h7, h8, h9, h10, h11, h12, h13, h14, by omega⟩
        · rw [if_neg z2, if_pos z]
          exact ⟨rfl, h1, h2, h3, h4, h5, h6, h7, h8, h9, h10, h11, h12, h13, h14, by omega⟩
    · have z1 : ¬ f_X6_within a2 (-20000) 20000 = 0 := fun z => hc2 ((pw_reach a2 a3).mpr (Or.inl z))
      have z2 : ¬ f_X6_within a3 (-20000) 20000 = 0 := fun z => hc2 ((pw_reach a2 a3).mpr (Or.inr z))
      rw [if_neg hc2, if_neg z1, if_neg z2]
      by_cases hc3 : f_X5_isWithin a4 (-2000) 20000 = 0
      · rw [if_pos hc3, if_pos hc3]
        exact ⟨rfl, h1, h2, h3, h4, h5, h6, h7, h8, h9, h10, h11, h12, h13, h14, by omega⟩
      · rw [if_neg hc3, if_neg hc3]
        have hk : kk_L a1 2 := kk_withinL hc1 rfl (by decide)
        obtain ⟨k0, k1, k2⟩ := pk_3 hk
        have b1 := pw_rng z1
        have b2 := pw_rng z2
        have b3 := pw_rng (v := a4) (lo := -2000) (hi := 20000) hc3
        rw [show (-20000 : Int32).toInt = -20000 from rfl, show (20000 : Int32).toInt = 20000 from rfl] at b1 b2
        rw [show (-2000 : Int32).toInt = -2000 from rfl, show (20000 : Int32).toInt = 20000 from rfl] at b3
        have q := pq_se h5 b1 b2 (z := a4) ⟨by omega, by omega⟩ (3 * a1).toNatClampNeg ((3 * a1) + 1).toNatClampNeg ((3 * a1) + 2).toNatClampNeg a1.toNatClampNeg
        unfold f_X3_take
        rw [k0, k1, k2]
        exact ⟨rfl, h1, h2, h3, h4, q, h6, h7, h8, h9, h10, h11, h12, h13, h14, by omega⟩
set_option maxHeartbeats 4000000 in
set_option maxRecDepth 100000 in
theorem pl_beat (N : Int) (ce he lo si ti gn bn uw us ug up un mn lm lf kg kc ke ki kw ku kn kq kr kl kz kt km kf kh : Int32) (fgx fgy fbx fby fur fmr fsr fsf flc fpl fwi fx fy fi fh fs fp fd fc : Nat → Int32) (hN : N ≤ 100000) (h : rv_R N ce he lo si ti gn bn uw us ug up un mn lm lf kg kc ke ki kw ku kn kq kr kl kz kt km kf kh fgx fgy fbx fby fur fmr fsr fsf flc fpl fwi fx fy fi fh fs fp fd fc) : rv_R (N + 5) ce he lo (f_X5_beat ce he lo si ti) ti gn bn uw us ug up un mn lm lf kg kc ke ki kw ku kn kq kr kl (f_X6_beat kg kc ke ki kw ku kn kq kr kl kz kt km kf kh) kt km kf kh fgx fgy fbx fby fur fmr fsr fsf flc fpl fwi fx fy fi fh fs fp fd fc := by
  obtain ⟨h1, h2, h3, h4, h5, h6, h7, h8, h9, h10, h11, h12, h13, h14, h15⟩ := h
  exact ⟨h1, h2, h3, h4, h5, h6, h7, h8, h9, h10, h11, rfl, h13, h14, by omega⟩
set_option maxHeartbeats 4000000 in
set_option maxRecDepth 100000 in
theorem pl_arm (N : Int) (ce he lo si ti gn bn uw us ug up un mn lm lf kg kc ke ki kw ku kn kq kr kl kz kt km kf kh : Int32) (fgx fgy fbx fby fur fmr fsr fsf flc fpl fwi fx fy fi fh fs fp fd fc : Nat → Int32) (hN : N ≤ 100000) (h : rv_R N ce he lo si ti gn bn uw us ug up un mn lm lf kg kc ke ki kw ku kn kq kr kl kz kt km kf kh fgx fgy fbx fby fur fmr fsr fsf flc fpl fwi fx fy fi fh fs fp fd fc) : (f_X5_arm ce he lo si ti bn fbx fby lm lf flc fpl).1 = (f_X6_arm kg kc ke ki kw ku kn kq kr kl kz kt km kf kh fx fy fp fc).1 ∧ rv_R (N + 5) ce he lo si ti gn bn uw us ug up un mn (f_X5_arm ce he lo si ti bn fbx fby lm lf flc fpl).2.2.1 (f_X5_arm ce he lo si ti bn fbx fby lm lf flc fpl).2.2.2 kg kc ke ki kw ku kn kq kr kl kz kt (f_X6_arm kg kc ke ki kw ku kn kq kr kl kz kt km kf kh fx fy fp fc).2.1 (f_X6_arm kg kc ke ki kw ku kn kq kr kl kz kt km kf kh fx fy fp fc).2.2.1 (f_X6_arm kg kc ke ki kw ku kn kq kr kl kz kt km kf kh fx fy fp fc).2.2.2.1 fgx fgy fbx fby fur fmr fsr fsf (f_X5_arm ce he lo si ti bn fbx fby lm lf flc fpl).2.1 fpl fwi fx fy fi fh fs fp fd (f_X6_arm kg kc ke ki kw ku kn kq kr kl kz kt km kf kh fx fy fp fc).2.2.2.2 := by
  obtain ⟨h1, h2, h3, h4, h5, h6, h7, h8, h9, h10, h11, h12, h13, h14, h15⟩ := h
  have e1 : lm = km := h6.1.symm
  subst e1
  have e2 : lf = kf := h6.2.1.symm
  subst e2
  have e3 : bn = kc := h2.1.symm
  subst e3
  subst h11
  subst h13
  unfold f_X5_arm f_X6_arm
  by_cases hc1 : lm = 0
  · rw [if_pos hc1, if_pos hc1]
    by_cases hc2 : bn = 0
    · rw [if_pos hc2, if_pos (show f_X0_areEnough bn = 0 by rw [hc2]; decide)]
      exact ⟨rfl, h1, h2, h3, h4, h5, h6, h7, h8, h9, h10, rfl, h12, rfl, h14, by omega⟩
    · have hb3 : 3 ≤ bn.toInt := h2.2.2.1.resolve_left hc2
      rw [if_neg hc2, if_neg (pg_enough hb3)]
      by_cases hc3 : 0 < kl
      · rw [if_pos hc3, if_pos hc3]
        exact ⟨rfl, h1, h2, h3, h4, h5, h6, h7, h8, h9, h10, rfl, h12, rfl, h14, by omega⟩
      · rw [if_neg hc3, if_neg hc3]
        rw [pg_safe h2 hb3, h8 _ (show (0 : Int32).toNatClampNeg < 3 by decide), h8 _ (show (1 : Int32).toNatClampNeg < 3 by decide)]
        by_cases hc4 : f_X0_leaveClear bn fbx fby (fpl (0 : Int32).toNatClampNeg) (fpl (1 : Int32).toNatClampNeg) 200 = 0
        · rw [if_pos hc4, if_pos hc4]
          exact ⟨rfl, h1, h2, h3, h4, h5, h6, h7, h8, h9, h10, rfl, h12, rfl, h14, by omega⟩
        · rw [if_neg hc4, if_neg hc4]
          obtain ⟨F', C', f', h', q1, q2, q3, q4⟩ := pm_go (kg := kg) (kc := bn) (ke := ke) (ki := ki) (kw := kw) (ku := ku) (kn := kn) (kq := kq) (kr := kr) (kl := kl) (kz := kz) (ti := kt) (md := 1) h7 h6 ⟨by decide, by decide⟩ (Or.inr hb3) (fun z => absurd z (by decide))
          rw [q1, q2]
          exact ⟨rfl, h1, h2, h3, h4, h5, q4, q3, h8, h9, h10, rfl, h12, rfl, h14, by omega⟩
  · rw [if_neg hc1, if_neg hc1]
    exact ⟨rfl, h1, h2, h3, h4, h5, h6, h7, h8, h9, h10, rfl, h12, rfl, h14, by omega⟩
set_option maxHeartbeats 4000000 in
set_option maxRecDepth 100000 in
theorem pl_command (N : Int) (ce he lo si ti gn bn uw us ug up un mn lm lf kg kc ke ki kw ku kn kq kr kl kz kt km kf kh : Int32) (fgx fgy fbx fby fur fmr fsr fsf flc fpl fwi fx fy fi fh fs fp fd fc : Nat → Int32) (a1 : Int32) (hN : N ≤ 100000) (h : rv_R N ce he lo si ti gn bn uw us ug up un mn lm lf kg kc ke ki kw ku kn kq kr kl kz kt km kf kh fgx fgy fbx fby fur fmr fsr fsf flc fpl fwi fx fy fi fh fs fp fd fc) : (f_X5_command ce he lo si ti mn lm lf flc a1).1 = (f_X6_command kg kc ke ki kw ku kn kq kr kl kz kt km kf kh fc a1).1 ∧ rv_R (N + 5) ce he lo si ti gn bn uw us ug up un mn (f_X5_command ce he lo si ti mn lm lf flc a1).2.2.1 (f_X5_command ce he lo si ti mn lm lf flc a1).2.2.2 kg kc ke ki kw ku kn kq kr kl kz kt (f_X6_command kg kc ke ki kw ku kn kq kr kl kz kt km kf kh fc a1).2.1 (f_X6_command kg kc ke ki kw ku kn kq kr kl kz kt km kf kh fc a1).2.2.1 (f_X6_command kg kc ke ki kw ku kn kq kr kl kz kt km kf kh fc a1).2.2.2.1 fgx fgy fbx fby fur fmr fsr fsf (f_X5_command ce he lo si ti mn lm lf flc a1).2.1 fpl fwi fx fy fi fh fs fp fd (f_X6_command kg kc ke ki kw ku kn kq kr kl kz kt km kf kh fc a1).2.2.2.2 := by
  obtain ⟨h1, h2, h3, h4, h5, h6, h7, h8, h9, h10, h11, h12, h13, h14, h15⟩ := h
  have e1 : lm = km := h6.1.symm
  subst e1
  have e2 : lf = kf := h6.2.1.symm
  subst e2
  have e3 : mn = ki := h4.1.symm
  subst e3
  subst h13
  unfold f_X5_command f_X6_command
  rw [kk_wi6]
  by_cases hc0 : f_X5_isWithin a1 2 5 = 0
  · rw [if_pos hc0, if_pos hc0]
    exact ⟨rfl, h1, h2, h3, h4, h5, h6, h7, h8, h9, h10, h11, h12, rfl, h14, by omega⟩
  · rw [if_neg hc0, if_neg hc0]
    by_cases hc1 : lm = 0
    · rw [if_pos hc1, if_pos hc1]
      exact ⟨rfl, h1, h2, h3, h4, h5, h6, h7, h8, h9, h10, h11, h12, rfl, h14, by omega⟩
    · rw [if_neg hc1, if_neg hc1]
      have hb3 : 3 ≤ bn.toInt := h6.2.2.2.2.1.resolve_left hc1
      obtain ⟨r1, r2⟩ := pw_rng (v := a1) (lo := 2) (hi := 5) hc0
      rw [show (2 : Int32).toInt = 2 from rfl] at r1
      rw [show (5 : Int32).toInt = 5 from rfl] at r2
      have go := fun hmi => pm_go (kg := kg) (kc := kc) (ke := ke) (ki := mn) (kw := kw) (ku := ku) (kn := kn) (kq := kq) (kr := kr) (kl := kl) (kz := kz) (ti := kt) (md := a1) h7 h6 ⟨by omega, r2⟩ (Or.inr hb3) hmi
      by_cases hc2 : lf = 0
      · rw [if_pos hc2, if_pos hc2]
        by_cases hc3 : lm = 1
        · rw [if_pos hc3, if_pos hc3]
          by_cases hc4 : a1 = 2
          · rw [if_pos hc4, if_pos hc4]
            exact ⟨rfl, h1, h2, h3, h4, h5, h6, h7, h8, h9, h10, h11, h12, rfl, h14, by omega⟩
          · rw [if_neg hc4, if_neg hc4]
            obtain ⟨F', C', f', h', q1, q2, q3, q4⟩ := go (fun z => absurd z hc4)
            rw [q1, q2]
            exact ⟨rfl, h1, h2, h3, h4, h5, q4, q3, h8, h9, h10, h11, h12, rfl, h14, by omega⟩
        · rw [if_neg hc3, if_neg hc3]
          by_cases hc4 : a1 = 2
          · rw [if_pos hc4, if_pos hc4]
            unfold f_X1_isEmpty
            by_cases hc5 : mn = 0
            · rw [if_pos hc5, if_pos hc5, if_neg (by decide)]
              exact ⟨rfl, h1, h2, h3, h4, h5, h6, h7, h8, h9, h10, h11, h12, rfl, h14, by omega⟩
            · rw [if_neg hc5, if_neg hc5, if_pos rfl]
              have hm1 : 1 ≤ mn.toInt := by
                have u1 := h4.2.2.1.1
                have u2 : mn.toInt ≠ 0 := fun z => hc5 (pn_inj z)
                omega
              obtain ⟨F', C', f', h', q1, q2, q3, q4⟩ := go (fun _ => hm1)
              rw [q1, q2]
              exact ⟨rfl, h1, h2, h3, h4, h5, q4, q3, h8, h9, h10, h11, h12, rfl, h14, by omega⟩
          · rw [if_neg hc4, if_neg hc4]
            obtain ⟨F', C', f', h', q1, q2, q3, q4⟩ := go (fun z => absurd z hc4)
            rw [q1, q2]
            exact ⟨rfl, h1, h2, h3, h4, h5, q4, q3, h8, h9, h10, h11, h12, rfl, h14, by omega⟩
      · rw [if_neg hc2, if_neg hc2]
        exact ⟨rfl, h1, h2, h3, h4, h5, h6, h7, h8, h9, h10, h11, h12, rfl, h14, by omega⟩
set_option maxHeartbeats 4000000 in
set_option maxRecDepth 100000 in
theorem pl_tick (N : Int) (ce he lo si ti gn bn uw us ug up un mn lm lf kg kc ke ki kw ku kn kq kr kl kz kt km kf kh : Int32) (fgx fgy fbx fby fur fmr fsr fsf flc fpl fwi fx fy fi fh fs fp fd fc : Nat → Int32) (a1 : Int32) (hN : N ≤ 100000) (h : rv_R N ce he lo si ti gn bn uw us ug up un mn lm lf kg kc ke ki kw ku kn kq kr kl kz kt km kf kh fgx fgy fbx fby fur fmr fsr fsf flc fpl fwi fx fy fi fh fs fp fd fc) : (f_X5_tick ce he lo si ti bn fbx fby uw us ug up mn fmr fsr fsf lm lf flc fpl fwi a1).1 = (f_X6_tick kg kc ke ki kw ku kn kq kr kl kz kt km kf kh fx fy fi fh fs fp fd fc a1).1 ∧ rv_R (N + 5) ce (f_X5_tick ce he lo si ti bn fbx fby uw us ug up mn fmr fsr fsf lm lf flc fpl fwi a1).2.1 (f_X5_tick ce he lo si ti bn fbx fby uw us ug up mn fmr fsr fsf lm lf flc fpl fwi a1).2.2.1 (f_X5_tick ce he lo si ti bn fbx fby uw us ug up mn fmr fsr fsf lm lf flc fpl fwi a1).2.2.2.1 (f_X5_tick ce he lo si ti bn fbx fby uw us ug up mn fmr fsr fsf lm lf flc fpl fwi a1).2.2.2.2.1 gn bn (f_X5_tick ce he lo si ti bn fbx fby uw us ug up mn fmr fsr fsf lm lf flc fpl fwi a1).2.2.2.2.2.1 us (f_X5_tick ce he lo si ti bn fbx fby uw us ug up mn fmr fsr fsf lm lf flc fpl fwi a1).2.2.2.2.2.2.1 (f_X5_tick ce he lo si ti bn fbx fby uw us ug up mn fmr fsr fsf lm lf flc fpl fwi a1).2.2.2.2.2.2.2.1 un mn (f_X5_tick ce he lo si ti bn fbx fby uw us ug up mn fmr fsr fsf lm lf flc fpl fwi a1).2.2.2.2.2.2.2.2.2.2.1 (f_X5_tick ce he lo si ti bn fbx fby uw us ug up mn fmr fsr fsf lm lf flc fpl fwi a1).2.2.2.2.2.2.2.2.2.2.2.1 kg kc ke ki (f_X6_tick kg kc ke ki kw ku kn kq kr kl kz kt km kf kh fx fy fi fh fs fp fd fc a1).2.1 (f_X6_tick kg kc ke ki kw ku kn kq kr kl kz kt km kf kh fx fy fi fh fs fp fd fc a1).2.2.1 kn (f_X6_tick kg kc ke ki kw ku kn kq kr kl kz kt km kf kh fx fy fi fh fs fp fd fc a1).2.2.2.1 (f_X6_tick kg kc ke ki kw ku kn kq kr kl kz kt km kf kh fx fy fi fh fs fp fd fc a1).2.2.2.2.1 (f_X6_tick kg kc ke ki kw ku kn kq kr kl kz kt km kf kh fx fy fi fh fs fp fd fc a1).2.2.2.2.2.1 (f_X6_tick kg kc ke ki kw ku kn kq kr kl kz kt km kf kh fx fy fi fh fs fp fd fc a1).2.2.2.2.2.2.1 (f_X6_tick kg kc ke ki kw ku kn kq kr kl kz kt km kf kh fx fy fi fh fs fp fd fc a1).2.2.2.2.2.2.2.1 (f_X6_tick kg kc ke ki kw ku kn kq kr kl kz kt km kf kh fx fy fi fh fs fp fd fc a1).2.2.2.2.2.2.2.2.1 (f_X6_tick kg kc ke ki kw ku kn kq kr kl kz kt km kf kh fx fy fi fh fs fp fd fc a1).2.2.2.2.2.2.2.2.2.1 (f_X6_tick kg kc ke ki kw ku kn kq kr kl kz kt km kf kh fx fy fi fh fs fp fd fc a1).2.2.2.2.2.2.2.2.2.2.1 fgx fgy fbx fby fur fmr fsr (f_X5_tick ce he lo si ti bn fbx fby uw us ug up mn fmr fsr fsf lm lf flc fpl fwi a1).2.2.2.2.2.2.2.2.1 (f_X5_tick ce he lo si ti bn fbx fby uw us ug up mn fmr fsr fsf lm lf flc fpl fwi a1).2.2.2.2.2.2.2.2.2.1 (f_X5_tick ce he lo si ti bn fbx fby uw us ug up mn fmr fsr fsf lm lf flc fpl fwi a1).2.2.2.2.2.2.2.2.2.2.2.2.1 (f_X5_tick ce he lo si ti bn fbx fby uw us ug up mn fmr fsr fsf lm lf flc fpl fwi a1).2.2.2.2.2.2.2.2.2.2.2.2.2 fx fy fi (f_X6_tick kg kc ke ki kw ku kn kq kr kl kz kt km kf kh fx fy fi fh fs fp fd fc a1).2.2.2.2.2.2.2.2.2.2.2.2.1 fs (f_X6_tick kg kc ke ki kw ku kn kq kr kl kz kt km kf kh fx fy fi fh fs fp fd fc a1).2.2.2.2.2.2.2.2.2.2.2.2.2.1 (f_X6_tick kg kc ke ki kw ku kn kq kr kl kz kt km kf kh fx fy fi fh fs fp fd fc a1).2.2.2.2.2.2.2.2.2.2.2.2.2.2 (f_X6_tick kg kc ke ki kw ku kn kq kr kl kz kt km kf kh fx fy fi fh fs fp fd fc a1).2.2.2.2.2.2.2.2.2.2.2.1 := by
  obtain ⟨h1, h2, h3, h4, h5, h6, h7, h8, h9, h10, h11, h12, h13, h14, h15⟩ := h
  have e1 : lm = km := h6.1.symm
  subst e1
  have e2 : lf = kf := h6.2.1.symm
  subst e2
  have e3 : bn = kc := h2.1.symm
  subst e3
  have e4 : mn = ki := h4.1.symm
  subst e4
  have e5 : he = kw := h4.2.1.symm
  subst e5
  have e6 : ce = ke := h10.symm
  subst e6
  have e7 : lo = kl := h11.symm
  subst e7
  have e8 : si = kz := h12.symm
  subst e8
  have e9 : ti = kt := h13.symm
  subst e9
  by_cases c0 : f_X5_isWithin a1 0 100 = 0
  · have E5 : f_X5_tick ce he lo si ti bn fbx fby uw us ug up mn fmr fsr fsf lm lf flc fpl fwi a1 = (-5, he, lo, si, ti, uw, ug, up, fsf, flc, lm, lf, fpl, fwi) := by
      unfold f_X5_tick
      rw [if_pos c0]
    have E6 : f_X6_tick kg bn ce mn he ku kn kq kr lo si ti lm lf kh fx fy fi fh fs fp fd fc a1 = (-5, he, ku, kq, kr, lo, si, ti, lm, lf, kh, fc, fh, fp, fd) := by
      unfold f_X6_tick
      rw [kk_wi6, if_pos c0]
    rw [E5, E6]
    exact ⟨rfl, h1, h2, h3, h4, h5, h6, h7, h8, h9, rfl, rfl, rfl, rfl, h14, (show lo.toInt ≤ N + 5 by omega)⟩
  · obtain ⟨uw2, ug2, up2, ku2, kq2, kr2, l1, l2, l3⟩ := pt_link (kg := kg) (kc := bn) (ke := ce) (ki := mn) (kw := he) (kl := lo) (kz := si) (kt := ti) (km := lm) (kf := lf) (kh := kh) h3
    obtain ⟨P2, P6, S2, H2, L2, v1, v2, v3, v4, v5, v6⟩ := pv_go (kg := kg) (kc := bn) (ke := ce) (ki := mn) (kw := he) (ku := ku2) (kn := kn) (kq := kq2) (kr := kr2) (kz := si) (kt := ti + 1) (km := lm) (kf := lf) (kh := kh) (ce := ce) (he := he) (si := si) (ti := ti + 1) h5 h8 h14 h15 hN
    by_cases c1 : lm = 0
    · have E5 : f_X5_tick ce he lo si ti bn fbx fby uw us ug up mn fmr fsr fsf lm lf flc fpl fwi a1 = (lm, he, L2, si + 1, ti + 1, uw2, ug2, up2, S2, flc, lm, lf, P2, f_X5_setWish ce he L2 (si + 1) (ti + 1) fwi 0 0 0) := by
        unfold f_X5_tick
        rw [if_neg c0, l1]
        dsimp only
        rw [v1]
        dsimp only
        rw [if_pos c1]
      have E6 : f_X6_tick kg bn ce mn he ku kn kq kr lo si ti lm lf kh fx fy fi fh fs fp fd fc a1 = (0, he, ku2, kq2, kr2, L2, si + 1, ti + 1, lm, lf, kh, fc, H2, P6, upd (upd (upd fd (0 : Int32).toNatClampNeg 0) (1 : Int32).toNatClampNeg 0) (2 : Int32).toNatClampNeg 0) := by
        unfold f_X6_tick
        rw [kk_wi6, if_neg c0, l2]
        dsimp only
        rw [v2]
        dsimp only
        rw [if_pos c1]
      rw [E5, E6]
      exact ⟨c1, h1, h2, l3, h4, v3, h6, h7, v4, ps_ar rfl rfl rfl, rfl, rfl, rfl, rfl, v5, (show L2.toInt ≤ N + 5 by omega)⟩
    · have hb : 3 ≤ bn.toInt := h6.2.2.2.2.1.resolve_left c1
      obtain ⟨F3, C3, m3, f3, k3, w1, w2, w3, w4, w5⟩ := pt_fail (kg := kg) (kc := bn) (ke := ce) (ki := mn) (kw := he) (ku := ku2) (kn := kn) (kq := kq2) (kr := kr2) (lo := L2) (si := si + 1) (ti := ti + 1) (ce := ce) (he := he) (bt := a1) h7 h6 c1
      by_cases c2 : L2 = 0
      · obtain ⟨he4, m4, f4, k4, F4, C4, x1, x2, x3, x4, x5⟩ := pt_move (kg := kg) (kc := bn) (ke := ce) (ku := ku2) (kn := kn) (kq := kq2) (kr := kr2) (lo := L2) (si := si + 1) (ti := ti + 1) (ce := ce) h4 w3 w4 v4 w5
        have sg := ps_steer0 (kg := kg) (kc := bn) (ke := ce) (ku := ku2) (kn := kn) (kq := kq2) (kr := kr2) (lo := L2) (si := si + 1) (ti := ti + 1) (kf := f4) (kh := k4) (ce := ce) (fwi := fwi) (fd := fd) x3 x5 v4 c2
        by_cases c3 : m4 = 0
        · have E5 : f_X5_tick ce he lo si ti bn fbx fby uw us ug up mn fmr fsr fsf lm lf flc fpl fwi a1 = (m4, he4, L2, si + 1, ti + 1, uw2, ug2, up2, S2, F4, m4, f4, P2, f_X5_guide ce he4 L2 (si + 1) (ti + 1) mn fmr m4 f4 P2 fwi) := by
            unfold f_X5_tick
            rw [if_neg c0, l1]
            dsimp only
            rw [v1]
            dsimp only
            rw [if_neg c1]
            unfold f_X5_fly
            rw [w1]
            dsimp only
            rw [if_pos c2, x1]
            dsimp only
            rw [if_pos c3]
          have E6 : f_X6_tick kg bn ce mn he ku kn kq kr lo si ti lm lf kh fx fy fi fh fs fp fd fc a1 = (m4, he4, ku2, kq2, kr2, L2, si + 1, ti + 1, m4, f4, k4, C4, H2, P6, f_X6_steer kg bn ce mn he4 ku2 kn kq2 kr2 L2 (si + 1) (ti + 1) m4 f4 k4 fi P6 fd) := by
            unfold f_X6_tick
            rw [kk_wi6, if_neg c0, l2]
            dsimp only
            rw [v2]
            dsimp only
            rw [if_neg c1, w2]
            dsimp only
            rw [if_pos c2, x2]
            dsimp only
            rw [if_pos c3]
          rw [E5, E6]
          exact ⟨rfl, h1, h2, l3, x3, v3, x5, x4, v4, sg, rfl, rfl, rfl, rfl, v5, (show L2.toInt ≤ N + 5 by omega)⟩
        · have E5 : f_X5_tick ce he lo si ti bn fbx fby uw us ug up mn fmr fsr fsf lm lf flc fpl fwi a1 = (m4, he4, L2, si + 1, ti + 1, uw2, ug2, up2, S2, F4, m4, f4, P2, f_X5_guardTop ce he4 L2 (si + 1) (ti + 1) P2 (f_X5_guardSides ce he4 L2 (si + 1) (ti + 1) bn fbx fby P2 (f_X5_guide ce he4 L2 (si + 1) (ti + 1) mn fmr m4 f4 P2 fwi))) := by
            unfold f_X5_tick
            rw [if_neg c0, l1]
            dsimp only
            rw [v1]
            dsimp only
            rw [if_neg c1]
            unfold f_X5_fly
            rw [w1]
            dsimp only
            rw [if_pos c2, x1]
            dsimp only
            rw [if_neg c3]
          have E6 : f_X6_tick kg bn ce mn he ku kn kq kr lo si ti lm lf kh fx fy fi fh fs fp fd fc a1 = (m4, he4, ku2, kq2, kr2, L2, si + 1, ti + 1, m4, f4, k4, C4, H2, P6, f_X6_guard kg bn ce mn he4 ku2 kn kq2 kr2 L2 (si + 1) (ti + 1) m4 f4 k4 fx fy P6 (f_X6_steer kg bn ce mn he4 ku2 kn kq2 kr2 L2 (si + 1) (ti + 1) m4 f4 k4 fi P6 fd)) := by
            unfold f_X6_tick
            rw [kk_wi6, if_neg c0, l2]
            dsimp only
            rw [v2]
            dsimp only
            rw [if_neg c1, w2]
            dsimp only
            rw [if_pos c2, x2]
            dsimp only
            rw [if_neg c3]
          rw [E5, E6]
          exact ⟨rfl, h1, h2, l3, x3, v3, x5, x4, v4, ps_guard h2 hb v4 sg, rfl, rfl, rfl, rfl, v5, (show L2.toInt ≤ N + 5 by omega)⟩
      · have c4 : ¬ L2 ≤ 0 := by
          intro z
          rw [Int32.le_iff_toInt_le, Int32.toInt_zero] at z
          exact c2 (pn_inj (by rw [Int32.toInt_zero]; omega))
        have sg := ps_steer1 (kg := kg) (kc := bn) (ke := ce) (ku := ku2) (kn := kn) (kq := kq2) (kr := kr2) (lo := L2) (si := si + 1) (ti := ti + 1) (lm := m3) (lf := f3) (kf := f3) (kh := k3) (mn := mn) (he := he) (ce := ce) (fmr := fmr) (fi := fi) (fpl := P2) (fp := P6) (fwi := fwi) (fd := fd) c4
        have E5 : f_X5_tick ce he lo si ti bn fbx fby uw us ug up mn fmr fsr fsf lm lf flc fpl fwi a1 = (m3, he, L2, si + 1, ti + 1, uw2, ug2, up2, S2, F3, m3, f3, P2, f_X5_flyBlind ce he L2 (si + 1) (ti + 1) m3 f3 (f_X5_guide ce he L2 (si + 1) (ti + 1) mn fmr m3 f3 P2 fwi)) := by
          unfold f_X5_tick
          rw [if_neg c0, l1]
          dsimp only
          rw [v1]
          dsimp only
          rw [if_neg c1]
          unfold f_X5_fly
          rw [w1]
          dsimp only
          rw [if_neg c2, if_neg c4]
        have E6 : f_X6_tick kg bn ce mn he ku kn kq kr lo si ti lm lf kh fx fy fi fh fs fp fd fc a1 = (m3, he, ku2, kq2, kr2, L2, si + 1, ti + 1, m3, f3, k3, C3, H2, P6, f_X6_steer kg bn ce mn he ku2 kn kq2 kr2 L2 (si + 1) (ti + 1) m3 f3 k3 fi P6 fd) := by
          unfold f_X6_tick
          rw [kk_wi6, if_neg c0, l2]
          dsimp only
          rw [v2]
          dsimp only
          rw [if_neg c1, w2]
          dsimp only
          rw [if_neg c2]
        rw [E5, E6]
        exact ⟨rfl, h1, h2, l3, h4, v3, w4, w3, v4, sg, rfl, rfl, rfl, rfl, v5, (show L2.toInt ≤ N + 5 by omega)⟩
set_option maxHeartbeats 4000000 in
set_option maxRecDepth 100000 in
theorem pl_mode (N : Int) (ce he lo si ti gn bn uw us ug up un mn lm lf kg kc ke ki kw ku kn kq kr kl kz kt km kf kh : Int32) (fgx fgy fbx fby fur fmr fsr fsf flc fpl fwi fx fy fi fh fs fp fd fc : Nat → Int32) (hN : N ≤ 100000) (h : rv_R N ce he lo si ti gn bn uw us ug up un mn lm lf kg kc ke ki kw ku kn kq kr kl kz kt km kf kh fgx fgy fbx fby fur fmr fsr fsf flc fpl fwi fx fy fi fh fs fp fd fc) : (f_X5_mode ce he lo si ti lm lf) = (f_X6_mode kg kc ke ki kw ku kn kq kr kl kz kt km kf kh) := by
  obtain ⟨h1, h2, h3, h4, h5, h6, h7, h8, h9, h10, h11, h12, h13, h14, h15⟩ := h
  exact h6.1.symm
set_option maxHeartbeats 4000000 in
set_option maxRecDepth 100000 in
theorem pl_demand (N : Int) (ce he lo si ti gn bn uw us ug up un mn lm lf kg kc ke ki kw ku kn kq kr kl kz kt km kf kh : Int32) (fgx fgy fbx fby fur fmr fsr fsf flc fpl fwi fx fy fi fh fs fp fd fc : Nat → Int32) (a1 : Int32) (hN : N ≤ 100000) (h : rv_R N ce he lo si ti gn bn uw us ug up un mn lm lf kg kc ke ki kw ku kn kq kr kl kz kt km kf kh fgx fgy fbx fby fur fmr fsr fsf flc fpl fwi fx fy fi fh fs fp fd fc) : (f_X5_demand ce he lo si ti fwi a1) = (f_X6_demand kg kc ke ki kw ku kn kq kr kl kz kt km kf kh fd a1) := by
  obtain ⟨h1, h2, h3, h4, h5, h6, h7, h8, h9, h10, h11, h12, h13, h14, h15⟩ := h
  unfold f_X5_demand f_X6_demand
  rw [kk_wi6]
  by_cases hc : f_X5_isWithin a1 0 2 = 0
  · rw [if_pos hc, if_pos hc]
  · rw [if_neg hc, if_neg hc]
    exact (h9 _ (pn_lt (b := 2) (kk_withinL hc rfl (by decide)) (by decide))).symm
set_option maxHeartbeats 4000000 in
set_option maxRecDepth 100000 in
theorem pl_position (N : Int) (ce he lo si ti gn bn uw us ug up un mn lm lf kg kc ke ki kw ku kn kq kr kl kz kt km kf kh : Int32) (fgx fgy fbx fby fur fmr fsr fsf flc fpl fwi fx fy fi fh fs fp fd fc : Nat → Int32) (a1 : Int32) (hN : N ≤ 100000) (h : rv_R N ce he lo si ti gn bn uw us ug up un mn lm lf kg kc ke ki kw ku kn kq kr kl kz kt km kf kh fgx fgy fbx fby fur fmr fsr fsf flc fpl fwi fx fy fi fh fs fp fd fc) : (f_X5_position ce he lo si ti fpl a1) = (f_X6_position kg kc ke ki kw ku kn kq kr kl kz kt km kf kh fp a1) := by
  obtain ⟨h1, h2, h3, h4, h5, h6, h7, h8, h9, h10, h11, h12, h13, h14, h15⟩ := h
  unfold f_X5_position f_X6_position
  rw [kk_wi6]
  by_cases hc : f_X5_isWithin a1 0 2 = 0
  · rw [if_pos hc, if_pos hc]
  · rw [if_neg hc, if_neg hc]
    exact (h8 _ (pn_lt (b := 2) (kk_withinL hc rfl (by decide)) (by decide))).symm
set_option maxHeartbeats 4000000 in
set_option maxRecDepth 100000 in
theorem pl_lost (N : Int) (ce he lo si ti gn bn uw us ug up un mn lm lf kg kc ke ki kw ku kn kq kr kl kz kt km kf kh : Int32) (fgx fgy fbx fby fur fmr fsr fsf flc fpl fwi fx fy fi fh fs fp fd fc : Nat → Int32) (hN : N ≤ 100000) (h : rv_R N ce he lo si ti gn bn uw us ug up un mn lm lf kg kc ke ki kw ku kn kq kr kl kz kt km kf kh fgx fgy fbx fby fur fmr fsr fsf flc fpl fwi fx fy fi fh fs fp fd fc) : (f_X5_lost ce he lo si ti) = (f_X6_lost kg kc ke ki kw ku kn kq kr kl kz kt km kf kh) := by
  obtain ⟨h1, h2, h3, h4, h5, h6, h7, h8, h9, h10, h11, h12, h13, h14, h15⟩ := h
  exact h11.symm
set_option maxHeartbeats 4000000 in
set_option maxRecDepth 100000 in
theorem pl_waypoint (N : Int) (ce he lo si ti gn bn uw us ug up un mn lm lf kg kc ke ki kw ku kn kq kr kl kz kt km kf kh : Int32) (fgx fgy fbx fby fur fmr fsr fsf flc fpl fwi fx fy fi fh fs fp fd fc : Nat → Int32) (hN : N ≤ 100000) (h : rv_R N ce he lo si ti gn bn uw us ug up un mn lm lf kg kc ke ki kw ku kn kq kr kl kz kt km kf kh fgx fgy fbx fby fur fmr fsr fsf flc fpl fwi fx fy fi fh fs fp fd fc) : (f_X5_waypoint ce he lo si ti mn) = (f_X6_waypoint kg kc ke ki kw ku kn kq kr kl kz kt km kf kh) := by
  obtain ⟨h1, h2, h3, h4, h5, h6, h7, h8, h9, h10, h11, h12, h13, h14, h15⟩ := h
  unfold f_X5_waypoint f_X6_waypoint f_X1_isEmpty
  obtain ⟨b1, b2, -⟩ := h4
  subst b1
  subst b2
  by_cases hz : ki = 0
  · rw [if_pos hz, if_pos hz, if_neg (by decide)]
  · rw [if_neg hz, if_neg hz, if_pos rfl]
set_option maxHeartbeats 4000000 in
set_option maxRecDepth 100000 in
theorem pl_safe (N : Int) (ce he lo si ti gn bn uw us ug up un mn lm lf kg kc ke ki kw ku kn kq kr kl kz kt km kf kh : Int32) (fgx fgy fbx fby fur fmr fsr fsf flc fpl fwi fx fy fi fh fs fp fd fc : Nat → Int32) (a1 a2 : Int32) (hN : N ≤ 100000) (h : rv_R N ce he lo si ti gn bn uw us ug up un mn lm lf kg kc ke ki kw ku kn kq kr kl kz kt km kf kh fgx fgy fbx fby fur fmr fsr fsf flc fpl fwi fx fy fi fh fs fp fd fc) : (f_X5_safe ce he lo si ti bn fbx fby a1 a2) = (f_X6_safe kg kc ke ki kw ku kn kq kr kl kz kt km kf kh fx fy a1 a2) := by
  obtain ⟨h1, h2, h3, h4, h5, h6, h7, h8, h9, h10, h11, h12, h13, h14, h15⟩ := h
  have e3 : bn = kc := h2.1.symm
  subst e3
  unfold f_X5_safe f_X6_safe
  have hk0 : bn ≤ 0 ↔ bn = 0 := by
    rw [Int32.le_iff_toInt_le, Int32.toInt_zero]
    have u1 := h2.2.1.1
    exact ⟨fun z => pn_inj (show bn.toInt = (0 : Int32).toInt by rw [Int32.toInt_zero]; omega), fun z => by rw [z]; decide⟩
  by_cases hb : bn = 0
  · rw [if_pos (hk0.mpr hb)]
    have hl : f_X0_leaveClear bn fbx fby a1 a2 200 = 0 := by
      unfold f_X0_leaveClear
      rw [if_pos (show f_X0_areEnough bn = 0 by rw [hb]; decide)]
    rw [if_pos hl]
    split <;> rfl
  · have hb3 : 3 ≤ bn.toInt := h2.2.2.1.resolve_left hb
    rw [if_neg (fun z => hb (hk0.mp z)), pg_safe h2 hb3]
    by_cases hc : f_X5_isInSensorReach a1 a2 = 0
    · rw [if_pos hc]
      rcases (pw_reach a1 a2).mp hc with z | z
      · rw [if_pos z]
      · by_cases z2 : f_X6_within a1 (-20000) 20000 = 0
        · rw [if_pos z2]
        · rw [if_neg z2, if_pos z]
    · rw [if_neg hc, if_neg (fun z => hc ((pw_reach a1 a2).mpr (Or.inl z))), if_neg (fun z => hc ((pw_reach a1 a2).mpr (Or.inr z)))]
set_option maxHeartbeats 4000000 in
set_option maxRecDepth 100000 in
theorem pl_change (N : Int) (ce he lo si ti gn bn uw us ug up un mn lm lf kg kc ke ki kw ku kn kq kr kl kz kt km kf kh : Int32) (fgx fgy fbx fby fur fmr fsr fsf flc fpl fwi fx fy fi fh fs fp fd fc : Nat → Int32) (a1 : Int32) (hN : N ≤ 100000) (h : rv_R N ce he lo si ti gn bn uw us ug up un mn lm lf kg kc ke ki kw ku kn kq kr kl kz kt km kf kh fgx fgy fbx fby fur fmr fsr fsf flc fpl fwi fx fy fi fh fs fp fd fc) : (f_X5_change ce he lo si ti lm lf flc a1) = (f_X6_change kg kc ke ki kw ku kn kq kr kl kz kt km kf kh fc a1) := by
  obtain ⟨h1, h2, h3, h4, h5, h6, h7, h8, h9, h10, h11, h12, h13, h14, h15⟩ := h
  unfold f_X5_change f_X6_change
  rw [kk_wi6]
  obtain ⟨⟨c1, c2⟩, c3⟩ := h7
  have e1 : (kh - 1).toInt = kh.toInt - 1 := kk_dec (b := 16) ⟨c1, c2⟩
  by_cases hc : f_X5_isWithin a1 0 15 = 0
  · rw [if_pos hc]
    have hc2 : f_X5_isWithin a1 0 (kh - 1) = 0 := by
      rw [pw_iff] at hc ⊢
      rw [Int32.le_iff_toInt_le, Int32.le_iff_toInt_le] at hc ⊢
      rw [show (15 : Int32).toInt = 15 from rfl] at hc
      rw [e1]
      omega
    rw [if_pos hc2]
  · rw [if_neg hc]
    obtain ⟨r1, r2⟩ := pw_rng (v := a1) (lo := 0) (hi := 15) hc
    rw [Int32.toInt_zero] at r1
    rw [show (15 : Int32).toInt = 15 from rfl] at r2
    have e2 := pn_cl r1
    rw [c3 a1.toNatClampNeg (by omega)]
    by_cases hd : f_X5_isWithin a1 0 (kh - 1) = 0
    · rw [if_pos hd, if_neg]
      rw [pw_iff, Int32.le_iff_toInt_le, Int32.le_iff_toInt_le, e1, Int32.toInt_zero] at hd
      omega
    · rw [if_neg hd, if_pos]
      obtain ⟨s1, s2⟩ := pw_rng (v := a1) (lo := 0) (hi := kh - 1) hd
      omega
