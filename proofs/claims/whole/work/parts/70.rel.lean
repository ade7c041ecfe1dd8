def rv_gv (gn kg : Int32) (fgx fgy fx fy : Nat → Int32) : Prop := kg = gn ∧ kk_L gn 8 ∧ ∀ j : Nat, (j : Int) < gn.toInt → fx j = fgx j ∧ fy j = fgy j
def rv_fe (bn kc : Int32) (fbx fby fx fy : Nat → Int32) : Prop := kc = bn ∧ kk_L bn 8 ∧ (bn = 0 ∨ 3 ≤ bn.toInt) ∧ ∀ j : Nat, (j : Int) < bn.toInt → fx (8 + j) = fbx j ∧ fy (8 + j) = fby j
def rv_ul (uw us ug up un ku kn kq kr : Int32) (fur fi : Nat → Int32) : Prop := kk_L un 8 ∧ ((uw = 0 ∧ ku = 0) ∨ (uw = 1 ∧ ku = us ∧ kn = un ∧ kq = ug ∧ kr = up ∧ 1 ≤ us.toInt ∧ us.toInt ≤ 8 ∧ un.toInt < us.toInt ∧ kk_L ug 9 ∧ kk_L up 2 ∧ ∀ j : Nat, (j : Int) < 3 * un.toInt → fi (24 + j) = fur j))
def rv_mi (mn he ki kw : Int32) (fmr fi : Nat → Int32) : Prop := ki = mn ∧ kw = he ∧ kk_L mn 8 ∧ kk_L he 7 ∧ (he.toInt < mn.toInt ∨ he.toInt = 0) ∧ ∀ j : Nat, (j : Int) < 3 * mn.toInt → fi j = fmr j
def rv_se (fsr fsf fs fh : Nat → Int32) : Prop := (∀ j : Nat, j < 3 → fh j = fsf j ∧ (fsf j = 0 ∨ fsf j = 1)) ∧ ∀ j : Nat, j < 9 → fs j = fsr j ∧ -20000 ≤ (fsr j).toInt ∧ (fsr j).toInt ≤ 20000
def rv_mo (lm lf km kf bn mn : Int32) : Prop := km = lm ∧ kf = lf ∧ (lf = 0 ∨ lf = 1) ∧ kk_L lm 5 ∧ (lm = 0 ∨ 3 ≤ bn.toInt) ∧ (lm = 2 → 1 ≤ mn.toInt) ∧ (lf = 1 → lm = 5)
def rv_ch (kh : Int32) (flc fc : Nat → Int32) : Prop := kk_L kh 16 ∧ ∀ j : Nat, j < 16 → flc j = if (j : Int) < kh.toInt then fc j else -1
def rv_ar (f g : Nat → Int32) : Prop := ∀ j : Nat, j < 3 → g j = f j
def rv_R (N : Int) (ce he lo si ti gn bn uw us ug up un mn lm lf kg kc ke ki kw ku kn kq kr kl kz kt km kf kh : Int32) (fgx fgy fbx fby fur fmr fsr fsf flc fpl fwi fx fy fi fh fs fp fd fc : Nat → Int32) : Prop := rv_gv gn kg fgx fgy fx fy ∧ rv_fe bn kc fbx fby fx fy ∧ rv_ul uw us ug up un ku kn kq kr fur fi ∧ rv_mi mn he ki kw fmr fi ∧ rv_se fsr fsf fs fh ∧ rv_mo lm lf km kf bn mn ∧ rv_ch kh flc fc ∧ rv_ar fpl fp ∧ rv_ar fwi fd ∧ ke = ce ∧ kl = lo ∧ kz = si ∧ kt = ti ∧ 0 ≤ lo.toInt ∧ lo.toInt ≤ N
theorem rv_mono {N N2 : Int} {ce he lo si ti gn bn uw us ug up un mn lm lf kg kc ke ki kw ku kn kq kr kl kz kt km kf kh : Int32} {fgx fgy fbx fby fur fmr fsr fsf flc fpl fwi fx fy fi fh fs fp fd fc : Nat → Int32} (h : rv_R N ce he lo si ti gn bn uw us ug up un mn lm lf kg kc ke ki kw ku kn kq kr kl kz kt km kf kh fgx fgy fbx fby fur fmr fsr fsf flc fpl fwi fx fy fi fh fs fp fd fc) (hN : N ≤ N2) : rv_R N2 ce he lo si ti gn bn uw us ug up un mn lm lf kg kc ke ki kw ku kn kq kr kl kz kt km kf kh fgx fgy fbx fby fur fmr fsr fsf flc fpl fwi fx fy fi fh fs fp fd fc := by
  obtain ⟨h1, h2, h3, h4, h5, h6, h7, h8, h9, h10, h11, h12, h13, h14, h15⟩ := h
  exact ⟨h1, h2, h3, h4, h5, h6, h7, h8, h9, h10, h11, h12, h13, h14, by omega⟩
theorem rv_hyps {N : Int} {ce he lo si ti gn bn uw us ug up un mn lm lf kg kc ke ki kw ku kn kq kr kl kz kt km kf kh : Int32} {fgx fgy fbx fby fur fmr fsr fsf flc fpl fwi fx fy fi fh fs fp fd fc : Nat → Int32} (h : rv_R N ce he lo si ti gn bn uw us ug up un mn lm lf kg kc ke ki kw ku kn kq kr kl kz kt km kf kh fgx fgy fbx fby fur fmr fsr fsf flc fpl fwi fx fy fi fh fs fp fd fc) : kk_L gn 8 ∧ kk_L bn 8 ∧ kk_L mn 8 ∧ kk_L un 8 ∧ kk_L kg 8 ∧ kk_L kc 8 ∧ (¬ ku = 0 → kk_L kn 7) ∧ kk_L kw 7 ∧ kk_L ki 8 ∧ (kw.toInt < ki.toInt ∨ kw.toInt = 0) ∧ kk_L kh 16 := by
  obtain ⟨⟨rfl, g2, g3⟩, ⟨rfl, f2, f3⟩, ⟨u1, u2⟩, ⟨rfl, rfl, m3, m4, m5, m6⟩, h5, h6, ⟨c1, c2⟩, h8, h9, h10, h11, h12, h13, h14, h15⟩ := h
  refine ⟨g2, f2, m3, u1, g2, f2, fun hz => ?_, m4, m3, m5, c1⟩
  rcases u2 with ⟨a1, a2⟩ | ⟨a1, a2, a3, a4, a5, a6, a7, a8, a9, a10, a11⟩
  · exact absurd a2 hz
  · rw [a3]
    exact ⟨u1.1, by omega⟩
