/-! the words of nest mates, the classes and array classes, a method's start and end, calls: one row each -/
def kk_N (U : State) : Prop :=
  va_Nw (.fieldLinkNest RX5 109 "FencePilot$Upload" "underWay" "Z" "FencePilot") U ∧
  va_Nw (.fieldLinkNest RX5 127 "FencePilot$Upload" "brought" "LFencePilot$Items;" "FencePilot") U ∧
  va_Nw (.fieldLinkNest RX5 143 "FencePilot$ModeLog" "landForced" "Z" "FencePilot") U ∧
  va_Nw (.fieldLinkNest RX5 161 "FencePilot$ModeLog" "changes" "[I" "FencePilot") U ∧
  va_Nw (.fieldLinkNest RX5 208 "FencePilot$Items" "count" "I" "FencePilot") U ∧
  va_Nw (.fieldLinkNest RX5 85 "FencePilot$ModeLog" "current" "I" "FencePilot") U ∧
  va_Nw (.fieldLinkNest RX4 35 "FencePilot$Items" "count" "I" "FencePilot") U ∧
  va_Nw (.methodLinkNest RX1 19 yX5_isWithin "FencePilot") U
def kk_K (D : va_G) (cI cZ : ClassId) (U : State) : Prop := va_K D vwCl [(cI, .int), (cZ, .boolean)] U ∧ kk_N U
theorem kk_warm {D : va_G} {cI cZ : ClassId} {s U : State} (hW : s.WarmedH U.vm) (h : kk_K D cI cZ s) : kk_K D cI cZ U := by
  obtain ⟨h1, n1, n2, n3, n4, n5, n6, n7, n8⟩ := h
  exact ⟨va_K.moved hW.alike h1, va_Nw.warmF hW n1, va_Nw.warmF hW n2, va_Nw.warmF hW n3, va_Nw.warmF hW n4, va_Nw.warmF hW n5, va_Nw.warmF hW n6, va_Nw.warmF hW n7, va_Nw.warmM hW n8⟩
theorem kk_same {D : va_G} {cI cZ : ClassId} {s U : State} (hv : s.vm = U.vm) (h : kk_K D cI cZ s) : kk_K D cI cZ U := by
  obtain ⟨h1, n1, n2, n3, n4, n5, n6, n7, n8⟩ := h
  exact ⟨va_K.moved (by rw [hv]; exact Vm.Alike.refl _) h1, va_Nw.same rfl hv n1, va_Nw.same rfl hv n2, va_Nw.same rfl hv n3, va_Nw.same rfl hv n4, va_Nw.same rfl hv n5, va_Nw.same rfl hv n6, va_Nw.same rfl hv n7, va_Nw.same rfl hv n8⟩
/-- a method's start: its world and the tables -/
def kk_P (D : va_G) (cI cZ : ClassId) (sz : Nat) (ws : va_W) (U : State) : Prop := U.heap.size = sz ∧ va_P D vwCl ws U.heap ∧ kk_K D cI cZ U ∧ va_D (fun _ => True) ws
/-- its end -/
def kk_B (D : va_G) (A : Nat → Prop) (ws : va_W) (t : State) : Prop := va_P D vwCl ws t.heap ∧ va_D A ws
theorem kk_blind {D : va_G} {cI cZ : ClassId} {sz : Nat} {ws : va_W} {av : List Value} : FrameBlind (va_Pc av (kk_P D cI cZ sz ws)) := by
  intro a U g mk q
  obtain ⟨q0, q1, qP, qK, qD⟩ := q
  exact ⟨q0, q1, qP, kk_same rfl qK, qD⟩
theorem kk_start {D : va_G} {cI cZ : ClassId} {A : Nat → Prop} {ws : va_W} {av : List Value} {s : State} {H : Heap} (hK : kk_K D cI cZ s) (hP : va_P D vwCl ws H) (hD : va_D A ws) : ∀ U : State, U.heap = H → s.WarmedH U.vm → va_Pc av (kk_P D cI cZ H.size ws) av.toArray U := by
  intro U hU hW
  exact ⟨rfl, by rw [hU], by rw [hU]; exact hP, kk_warm hW hK, hD.weaken (fun _ _ _ _ => trivial)⟩
def kk_Mi (l : Launch) (D : va_G) (cI cZ : ClassId) (y : MethodName) (w : List Cond) (rm : Room) (av : List Value) (sz : Nat) (ws : va_W) {S : Type} (post : Int32 → S → Prop) (w1 : S → va_W) (mc ms : Nat) : Prop :=
  Met l y w rm (va_Pc av (kk_P D cI cZ sz ws)) (va_Qi post (fun u t => kk_B D (va_A ws sz) (w1 u) t) (va_A ws sz)) mc ms (va_A ws sz)
def kk_Ml (l : Launch) (D : va_G) (cI cZ : ClassId) (y : MethodName) (w : List Cond) (rm : Room) (av : List Value) (sz : Nat) (ws : va_W) {S : Type} (post : Int64 → S → Prop) (w1 : S → va_W) (mc ms : Nat) : Prop :=
  Met l y w rm (va_Pc av (kk_P D cI cZ sz ws)) (va_Ql post (fun u t => kk_B D (va_A ws sz) (w1 u) t) (va_A ws sz)) mc ms (va_A ws sz)
def kk_Mv (l : Launch) (D : va_G) (cI cZ : ClassId) (y : MethodName) (w : List Cond) (rm : Room) (av : List Value) (sz : Nat) (ws : va_W) {S : Type} (post : S → Prop) (w1 : S → va_W) (mc ms : Nat) : Prop :=
  Met l y w rm (va_Pc av (kk_P D cI cZ sz ws)) (va_Qv post (fun u t => kk_B D (va_A ws sz) (w1 u) t) (va_A ws sz)) mc ms (va_A ws sz)
/-- what stands in a method's body all the way -/
def kk_X (p : Program) (s : State) (m : MethodId) (args : Array Value) (meth : Method) (c : Code) (cc : ByteArray) (nL : Nat) (ret : Option FieldType) (y : MethodName) (w : List Cond) (A : Nat → Prop) (D : va_G) (cI cZ : ClassId) : Prop :=
  p.tables.exec = Jvm.exec ∧ c.code = cc ∧ c.maxLocals = nL ∧ s.vm.findClass y.cls = some m.cls ∧ (∀ q ∈ w, q.before args s = true) ∧ meth.sig.returnType = ret ∧ meth.locks = false ∧ meth.name = y.name ∧ kk_K D cI cZ s ∧ (∀ q : Nat, s.heap.size ≤ q → A q)
section KKE
variable {l : Launch} {D : va_G} {cI cZ : ClassId} {y : MethodName} {w ws' : List Cond} {rm : Room} {av : List Value} {sz : Nat} {ws : va_W} {S : Type} {w1 : S → va_W} {mc ms : Nat} {cc : ByteArray} {maxL : Nat} {ret : Option FieldType}
theorem kk_ent {Qc : (Nat → Prop) → Array Value → State → Outcome → State → Prop} (hy : plainFor y = true) (hw : w = Cond.code y cc maxL ret :: ws') (hlen : (lg_sl av).length ≤ maxL)
    (body : ∀ (p : Program) (e : Env) (s : State) (m : MethodId) (args : Array Value) (below : List Frame) (meth : Method) (c : Code) (A : Nat → Prop) (ls : Array Slot), kk_X p s m args meth c cc maxL ret y w A D cI cZ → va_P D vwCl ws s.heap → va_D A ws → va_S A s.heap s.heap [] → lv_has ls maxL (lv_args 0 av) → W p l e rm s m args below meth c s.heap [] 0 0 (MQ below (Qc A) args s mc ms A) (F0 m 0 ls [])) :
    Met l y w rm (va_Pc av (kk_P D cI cZ sz ws)) (Qc (va_A ws sz)) mc ms (va_A ws sz) := by
  refine va_MetF (cc := cc) (maxL := maxL) (ret := ret) hy hw ?_
  intro p e s m args below meth c s₁ B hml hv
  obtain ⟨rfl, hsz, hP, hK, hD0⟩ := hv
  subst hsz
  have hD := hD0.self (sz := s.heap.size)
  have hl := lv_entry av (n := maxL) hlen
  rw [lg_entry_eq]
  exact body p e s m _ below meth c (va_A ws s.heap.size) _ ⟨B.exec, B.bytes, hml, findClass_of_methodNamed B.named, atoms_spec (ws := w) B.pre, B.returns, B.notSynchronized, (name_of_methodNamed B.named B.method).1, hK, fun q h => Or.inr h⟩ hP hD va_S.rf hl
theorem kk_enti {post : Int32 → S → Prop} (hy : plainFor y = true) (hw : w = Cond.code y cc maxL ret :: ws') (hlen : (lg_sl av).length ≤ maxL)
    (body : ∀ (p : Program) (e : Env) (s : State) (m : MethodId) (args : Array Value) (below : List Frame) (meth : Method) (c : Code) (A : Nat → Prop) (ls : Array Slot), kk_X p s m args meth c cc maxL ret y w A D cI cZ → va_P D vwCl ws s.heap → va_D A ws → va_S A s.heap s.heap [] → lv_has ls maxL (lv_args 0 av) → W p l e rm s m args below meth c s.heap [] 0 0 (MQ below (va_Qi post (fun u t => kk_B D A (w1 u) t) A) args s mc ms A) (F0 m 0 ls [])) :
    kk_Mi l D cI cZ y w rm av sz ws post w1 mc ms := kk_ent (Qc := fun A => va_Qi post (fun u t => kk_B D A (w1 u) t) A) hy hw hlen body
theorem kk_entl {post : Int64 → S → Prop} (hy : plainFor y = true) (hw : w = Cond.code y cc maxL ret :: ws') (hlen : (lg_sl av).length ≤ maxL)
    (body : ∀ (p : Program) (e : Env) (s : State) (m : MethodId) (args : Array Value) (below : List Frame) (meth : Method) (c : Code) (A : Nat → Prop) (ls : Array Slot), kk_X p s m args meth c cc maxL ret y w A D cI cZ → va_P D vwCl ws s.heap → va_D A ws → va_S A s.heap s.heap [] → lv_has ls maxL (lv_args 0 av) → W p l e rm s m args below meth c s.heap [] 0 0 (MQ below (va_Ql post (fun u t => kk_B D A (w1 u) t) A) args s mc ms A) (F0 m 0 ls [])) :
    kk_Ml l D cI cZ y w rm av sz ws post w1 mc ms := kk_ent (Qc := fun A => va_Ql post (fun u t => kk_B D A (w1 u) t) A) hy hw hlen body
theorem kk_entv {post : S → Prop} (hy : plainFor y = true) (hw : w = Cond.code y cc maxL ret :: ws') (hlen : (lg_sl av).length ≤ maxL)
    (body : ∀ (p : Program) (e : Env) (s : State) (m : MethodId) (args : Array Value) (below : List Frame) (meth : Method) (c : Code) (A : Nat → Prop) (ls : Array Slot), kk_X p s m args meth c cc maxL ret y w A D cI cZ → va_P D vwCl ws s.heap → va_D A ws → va_S A s.heap s.heap [] → lv_has ls maxL (lv_args 0 av) → W p l e rm s m args below meth c s.heap [] 0 0 (MQ below (va_Qv post (fun u t => kk_B D A (w1 u) t) A) args s mc ms A) (F0 m 0 ls [])) :
    kk_Mv l D cI cZ y w rm av sz ws post w1 mc ms := kk_ent (Qc := fun A => va_Qv post (fun u t => kk_B D A (w1 u) t) A) hy hw hlen body
end KKE
section KKR
variable {p : Program} {l : Launch} {e : Env} {R : Room} {s : State} {m : MethodId} {args : Array Value} {below : List Frame} {meth : Method} {c : Code} {H : Heap} {locs : List Loc}
variable {D : va_G} {A : Nat → Prop} {S : Type} {w1 : S → va_W} {mc ms : Nat} {cc : ByteArray} {pc : Nat} {ls : Array Slot}
theorem kk_ri {post : Int32 → S → Prop} {v : Int32} (u : S) (hx : p.tables.exec = Jvm.exec) (hb : c.code = cc) (hr : meth.sig.returnType = some .int) (hlocks : meth.locks = false) (hdg : decode cc pc = .ok (.ireturn, 1)) (hS : va_S A s.heap H locs) (hP : va_P D vwCl (w1 u) H) (hD : va_D A (w1 u)) (hq : post v u) :
    W p l e R s m args below meth c H locs mc ms (MQ below (va_Qi post (fun u t => kk_B D A (w1 u) t) A) args s mc ms A) (F0 m pc ls [.int v]) :=
  W.iret hx hb hr (fun t ht _ => ⟨⟨v, u, rfl, hq, by rw [ht]; exact hP, hD⟩, hS.F ht⟩) hS.2.2 hdg hlocks
theorem kk_rz {post : Int32 → S → Prop} {v : Int32} (u : S) (hx : p.tables.exec = Jvm.exec) (hb : c.code = cc) (hr : meth.sig.returnType = some .boolean) (hlocks : meth.locks = false) (hdg : decode cc pc = .ok (.ireturn, 1)) (hS : va_S A s.heap H locs) (hP : va_P D vwCl (w1 u) H) (hD : va_D A (w1 u)) (hn : narrow .boolean (.int v) = .int v) (hq : post v u) :
    W p l e R s m args below meth c H locs mc ms (MQ below (va_Qi post (fun u t => kk_B D A (w1 u) t) A) args s mc ms A) (F0 m pc ls [.int v]) :=
  W.zret hx hb hr hn (fun t ht _ => ⟨⟨v, u, rfl, hq, by rw [ht]; exact hP, hD⟩, hS.F ht⟩) hS.2.2 hdg hlocks
theorem kk_rl {post : Int64 → S → Prop} {v : Int64} (u : S) (hx : p.tables.exec = Jvm.exec) (hb : c.code = cc) (hr : meth.sig.returnType = some .long) (hlocks : meth.locks = false) (hdg : decode cc pc = .ok (.lreturn, 1)) (hS : va_S A s.heap H locs) (hP : va_P D vwCl (w1 u) H) (hD : va_D A (w1 u)) (hq : post v u) :
    W p l e R s m args below meth c H locs mc ms (MQ below (va_Ql post (fun u t => kk_B D A (w1 u) t) A) args s mc ms A) (F0 m pc ls [.long v]) :=
  W.lret hx hb hr (fun t ht _ => ⟨⟨v, u, rfl, hq, by rw [ht]; exact hP, hD⟩, hS.F ht⟩) hS.2.2 hdg hlocks
theorem kk_rv {post : S → Prop} (u : S) (hx : p.tables.exec = Jvm.exec) (hb : c.code = cc) (hr : meth.sig.returnType = none) (hlocks : meth.locks = false) (hdg : decode cc pc = .ok (.return_, 1)) (hS : va_S A s.heap H locs) (hP : va_P D vwCl (w1 u) H) (hD : va_D A (w1 u)) (hq : post u) :
    W p l e R s m args below meth c H locs mc ms (MQ below (va_Qv post (fun u t => kk_B D A (w1 u) t) A) args s mc ms A) (F0 m pc ls []) :=
  W.vret hx hb hr (fun t ht _ => ⟨⟨u, rfl, hq, by rw [ht]; exact hP, hD⟩, hS.F ht⟩) hS.2.2 hdg hlocks
end KKR
theorem kk_fm {ws : va_W} : ∀ {is : List Nat} {wc : va_W}, is.map (fun i => ws[i]?) = wc.map some → is.filterMap (fun i => ws[i]?) = wc
  | [], [], _ => rfl
  | [], _ :: _, h => by simp at h
  | _ :: _, [], h => by simp at h
  | i :: is, a :: t, h => by
    simp only [List.map_cons, List.cons.injEq] at h
    rw [List.filterMap_cons, h.1]
    simp [kk_fm h.2]
section KKC
variable {p : Program} {l : Launch} {e : Env} {R : Room} {s : State} {m : MethodId} {args : Array Value} {below : List Frame} {meth : Method} {c : Code} {H H0 : Heap} {locs : List Loc} {cells slots : Nat} {Q : State → Prop}
variable {D : va_G} {cI cZ : ClassId} {A : Nat → Prop} {S : Type} {w1 : S → va_W} {mc ms : Nat} {cc bytes : ByteArray} {pc nL n index maxL : Nat} {ls : Array Slot} {rest st0 As : List Value} {ws wc wr : va_W} {Ts wy : List Cond} {own C host : String} {y : MethodName} {rm : Room} {ret : Option FieldType} {b : Nat} {fs : List Value} {av : Array Value}
theorem kk_goi {post : Int32 → S → Prop} (hr : va_Run p l e R s m args below meth c H locs cells slots mc ms (F0 m pc ls st0) rest (va_Qi post (fun u t => kk_B D (va_A wc H.size) (w1 u) t) (va_A wc H.size) av) (va_A wc H.size))
    (hP : va_P D vwCl ws H) (hD : va_D A ws) (hS : va_S A H0 H locs) (hA : ∀ q, H0.size ≤ q → A q) (isC isR : List Nat) (hC : isC.map (fun i => ws[i]?) = wc.map some) (hR : isR.map (fun i => ws[i]?) = wr.map some) (hn : va_nd isR = true) (hnC : va_nd isC = true) (hdis : ∀ i ∈ isR, i ∉ isC)
    (kk : ∀ (r : Int32) (u : S) (H1 : Heap) (locs1 : List Loc), post r u → va_P D vwCl (wr ++ w1 u) H1 → va_D A (wr ++ w1 u) → va_S A H0 H1 locs1 → W p l e R s m args below meth c H1 locs1 (cells + mc) (slots + ms) Q (F0 m (pc + 3) ls (.int r :: rest))) : W p l e R s m args below meth c H locs cells slots Q (F0 m pc ls st0) := by
  have hF := va_free hD hS hA isC hC
  refine va_calli hr hS (fun q _ h => hF q h) hF (fun r u t H1 locs1 ht hvm hw hB hz1 hk1 hS1 => ?_)
  obtain ⟨hP1, hD1⟩ := hB
  rw [ht] at hP1
  obtain ⟨hP2, hD2⟩ := va_join hP hD isC isR hC hR hn hdis hk1 hF hP1 hD1
  exact kk r u H1 locs1 hw hP2 hD2 hS1
theorem kk_cVi {post : Int32 → S → Prop} {q : vw_C} (X : CallFix p m c cc nL s args Ts own) (hK : kk_K D cI cZ s) (hP : va_P D vwCl ws H) (hD : va_D A ws) (hS : va_S A H0 H locs) (hA : ∀ q, H0.size ≤ q → A q) (isC isR : List Nat) (hM : kk_Mi l D cI cZ y wy rm (Value.ref b :: As) H.size wc post w1 mc ms) (cw : CallW R s args own C index y bytes maxL ret wy rm mc ms n)
    (hC : isC.map (fun i => ws[i]?) = wc.map some) (hR : isR.map (fun i => ws[i]?) = wr.map some) (hn : va_nd isR = true) (hnC : va_nd isC = true) (hdis : ∀ i ∈ isR, i ∉ isC) (q0 ci : Nat) (hc : vwCl[ci]? = some q) (hq : q.1 = C) (he : wc[q0]? = some (b, .inr (ci, fs))) (hlen : As.length = n) (hsz : ls.size = nL) (hst : st0 = As.reverse ++ .ref b :: rest) (hW : (rest.map fun v => v.category).sum ≤ 8) (hdg : decode cc pc = .ok (.invokevirtual index, 3)) (hf : cells + mc ≤ R.cells ∧ slots + ms ≤ R.slots)
    (kk : ∀ (r : Int32) (u : S) (H1 : Heap) (locs1 : List Loc), post r u → va_P D vwCl (wr ++ w1 u) H1 → va_D A (wr ++ w1 u) → va_S A H0 H1 locs1 → W p l e R s m args below meth c H1 locs1 (cells + mc) (slots + ms) Q (F0 m (pc + 3) ls (.int r :: rest))) : W p l e R s m args below meth c H locs cells slots Q (F0 m pc ls st0) := by
  subst hq
  have hPc := hP.sub (ws' := wc) isC (kk_fm hC)
  have hDc := hD.sub (ws' := wc) isC hnC hC
  exact kk_goi (va_runV X hM cw ⟨kk_blind, va_recv hK.1 hPc hc he, kk_start hK hPc hDc⟩ rfl hlen hsz hst (lv_room hW) hdg hf) hP hD hS hA isC isR hC hR hn hnC hdis kk
theorem kk_cSi {post : Int32 → S → Prop} (X : CallFix p m c cc nL s args Ts own) (hK : kk_K D cI cZ s) (hP : va_P D vwCl ws H) (hD : va_D A ws) (hS : va_S A H0 H locs) (hA : ∀ q, H0.size ≤ q → A q) (isC isR : List Nat) (hM : kk_Mi l D cI cZ y wy rm As H.size wc post w1 mc ms) (cw : CallB R s args own index y bytes maxL ret wy rm mc ms n ∧ (Cond.static y).before args s = true)
    (hC : isC.map (fun i => ws[i]?) = wc.map some) (hR : isR.map (fun i => ws[i]?) = wr.map some) (hn : va_nd isR = true) (hnC : va_nd isC = true) (hdis : ∀ i ∈ isR, i ∉ isC) (hlen : As.length = n) (hsz : ls.size = nL) (hst : st0 = As.reverse ++ rest) (hW : (rest.map fun v => v.category).sum ≤ 8) (hdg : decode cc pc = .ok (.invokestatic index, 3)) (hf : cells + mc ≤ R.cells ∧ slots + ms ≤ R.slots)
    (kk : ∀ (r : Int32) (u : S) (H1 : Heap) (locs1 : List Loc), post r u → va_P D vwCl (wr ++ w1 u) H1 → va_D A (wr ++ w1 u) → va_S A H0 H1 locs1 → W p l e R s m args below meth c H1 locs1 (cells + mc) (slots + ms) Q (F0 m (pc + 3) ls (.int r :: rest))) : W p l e R s m args below meth c H locs cells slots Q (F0 m pc ls st0) := by
  have hPc := hP.sub (ws' := wc) isC (kk_fm hC)
  have hDc := hD.sub (ws' := wc) isC hnC hC
  exact kk_goi (va_runS X hM cw ⟨kk_blind, kk_start hK hPc hDc⟩ rfl hlen hsz hst (lv_room hW) hdg hf) hP hD hS hA isC isR hC hR hn hnC hdis kk
theorem kk_cNi {post : Int32 → S → Prop} (X : CallFix p m c cc nL s args Ts own) (hK : kk_K D cI cZ s) (hP : va_P D vwCl ws H) (hD : va_D A ws) (hS : va_S A H0 H locs) (hA : ∀ q, H0.size ≤ q → A q) (isC isR : List Nat) (hM : kk_Mi l D cI cZ y wy rm As H.size wc post w1 mc ms) (cw : va_CN R s args own index y host bytes maxL ret wy rm mc ms n ∧ (Cond.static y).before args s = true ∧ True)
    (hC : isC.map (fun i => ws[i]?) = wc.map some) (hR : isR.map (fun i => ws[i]?) = wr.map some) (hn : va_nd isR = true) (hnC : va_nd isC = true) (hdis : ∀ i ∈ isR, i ∉ isC) (hlen : As.length = n) (hsz : ls.size = nL) (hst : st0 = As.reverse ++ rest) (hW : (rest.map fun v => v.category).sum ≤ 8) (hdg : decode cc pc = .ok (.invokestatic index, 3)) (hf : cells + mc ≤ R.cells ∧ slots + ms ≤ R.slots)
    (kk : ∀ (r : Int32) (u : S) (H1 : Heap) (locs1 : List Loc), post r u → va_P D vwCl (wr ++ w1 u) H1 → va_D A (wr ++ w1 u) → va_S A H0 H1 locs1 → W p l e R s m args below meth c H1 locs1 (cells + mc) (slots + ms) Q (F0 m (pc + 3) ls (.int r :: rest))) : W p l e R s m args below meth c H locs cells slots Q (F0 m pc ls st0) := by
  have hPc := hP.sub (ws' := wc) isC (kk_fm hC)
  have hDc := hD.sub (ws' := wc) isC hnC hC
  exact kk_goi (va_runSN X hM cw ⟨kk_blind, kk_start hK hPc hDc⟩ rfl hlen hsz hst (lv_room hW) hdg hf) hP hD hS hA isC isR hC hR hn hnC hdis kk
theorem kk_gol {post : Int64 → S → Prop} (hr : va_Run p l e R s m args below meth c H locs cells slots mc ms (F0 m pc ls st0) rest (va_Ql post (fun u t => kk_B D (va_A wc H.size) (w1 u) t) (va_A wc H.size) av) (va_A wc H.size))
    (hP : va_P D vwCl ws H) (hD : va_D A ws) (hS : va_S A H0 H locs) (hA : ∀ q, H0.size ≤ q → A q) (isC isR : List Nat) (hC : isC.map (fun i => ws[i]?) = wc.map some) (hR : isR.map (fun i => ws[i]?) = wr.map some) (hn : va_nd isR = true) (hnC : va_nd isC = true) (hdis : ∀ i ∈ isR, i ∉ isC)
    (kk : ∀ (r : Int64) (u : S) (H1 : Heap) (locs1 : List Loc), post r u → va_P D vwCl (wr ++ w1 u) H1 → va_D A (wr ++ w1 u) → va_S A H0 H1 locs1 → W p l e R s m args below meth c H1 locs1 (cells + mc) (slots + ms) Q (F0 m (pc + 3) ls (.long r :: rest))) : W p l e R s m args below meth c H locs cells slots Q (F0 m pc ls st0) := by
  have hF := va_free hD hS hA isC hC
  refine va_calll hr hS (fun q _ h => hF q h) hF (fun r u t H1 locs1 ht hvm hw hB hz1 hk1 hS1 => ?_)
  obtain ⟨hP1, hD1⟩ := hB
  rw [ht] at hP1
  obtain ⟨hP2, hD2⟩ := va_join hP hD isC isR hC hR hn hdis hk1 hF hP1 hD1
  exact kk r u H1 locs1 hw hP2 hD2 hS1
theorem kk_cVl {post : Int64 → S → Prop} {q : vw_C} (X : CallFix p m c cc nL s args Ts own) (hK : kk_K D cI cZ s) (hP : va_P D vwCl ws H) (hD : va_D A ws) (hS : va_S A H0 H locs) (hA : ∀ q, H0.size ≤ q → A q) (isC isR : List Nat) (hM : kk_Ml l D cI cZ y wy rm (Value.ref b :: As) H.size wc post w1 mc ms) (cw : CallW R s args own C index y bytes maxL ret wy rm mc ms n)
    (hC : isC.map (fun i => ws[i]?) = wc.map some) (hR : isR.map (fun i => ws[i]?) = wr.map some) (hn : va_nd isR = true) (hnC : va_nd isC = true) (hdis : ∀ i ∈ isR, i ∉ isC) (q0 ci : Nat) (hc : vwCl[ci]? = some q) (hq : q.1 = C) (he : wc[q0]? = some (b, .inr (ci, fs))) (hlen : As.length = n) (hsz : ls.size = nL) (hst : st0 = As.reverse ++ .ref b :: rest) (hW : (rest.map fun v => v.category).sum ≤ 8) (hdg : decode cc pc = .ok (.invokevirtual index, 3)) (hf : cells + mc ≤ R.cells ∧ slots + ms ≤ R.slots)
    (kk : ∀ (r : Int64) (u : S) (H1 : Heap) (locs1 : List Loc), post r u → va_P D vwCl (wr ++ w1 u) H1 → va_D A (wr ++ w1 u) → va_S A H0 H1 locs1 → W p l e R s m args below meth c H1 locs1 (cells + mc) (slots + ms) Q (F0 m (pc + 3) ls (.long r :: rest))) : W p l e R s m args below meth c H locs cells slots Q (F0 m pc ls st0) := by
  subst hq
  have hPc := hP.sub (ws' := wc) isC (kk_fm hC)
  have hDc := hD.sub (ws' := wc) isC hnC hC
  exact kk_gol (va_runV X hM cw ⟨kk_blind, va_recv hK.1 hPc hc he, kk_start hK hPc hDc⟩ rfl hlen hsz hst (lv_room hW) hdg hf) hP hD hS hA isC isR hC hR hn hnC hdis kk
theorem kk_cSl {post : Int64 → S → Prop} (X : CallFix p m c cc nL s args Ts own) (hK : kk_K D cI cZ s) (hP : va_P D vwCl ws H) (hD : va_D A ws) (hS : va_S A H0 H locs) (hA : ∀ q, H0.size ≤ q → A q) (isC isR : List Nat) (hM : kk_Ml l D cI cZ y wy rm As H.size wc post w1 mc ms) (cw : CallB R s args own index y bytes maxL ret wy rm mc ms n ∧ (Cond.static y).before args s = true)
    (hC : isC.map (fun i => ws[i]?) = wc.map some) (hR : isR.map (fun i => ws[i]?) = wr.map some) (hn : va_nd isR = true) (hnC : va_nd isC = true) (hdis : ∀ i ∈ isR, i ∉ isC) (hlen : As.length = n) (hsz : ls.size = nL) (hst : st0 = As.reverse ++ rest) (hW : (rest.map fun v => v.category).sum ≤ 8) (hdg : decode cc pc = .ok (.invokestatic index, 3)) (hf : cells + mc ≤ R.cells ∧ slots + ms ≤ R.slots)
    (kk : ∀ (r : Int64) (u : S) (H1 : Heap) (locs1 : List Loc), post r u → va_P D vwCl (wr ++ w1 u) H1 → va_D A (wr ++ w1 u) → va_S A H0 H1 locs1 → W p l e R s m args below meth c H1 locs1 (cells + mc) (slots + ms) Q (F0 m (pc + 3) ls (.long r :: rest))) : W p l e R s m args below meth c H locs cells slots Q (F0 m pc ls st0) := by
  have hPc := hP.sub (ws' := wc) isC (kk_fm hC)
  have hDc := hD.sub (ws' := wc) isC hnC hC
  exact kk_gol (va_runS X hM cw ⟨kk_blind, kk_start hK hPc hDc⟩ rfl hlen hsz hst (lv_room hW) hdg hf) hP hD hS hA isC isR hC hR hn hnC hdis kk
theorem kk_gov {post : S → Prop} (hr : va_Run p l e R s m args below meth c H locs cells slots mc ms (F0 m pc ls st0) rest (va_Qv post (fun u t => kk_B D (va_A wc H.size) (w1 u) t) (va_A wc H.size) av) (va_A wc H.size))
    (hP : va_P D vwCl ws H) (hD : va_D A ws) (hS : va_S A H0 H locs) (hA : ∀ q, H0.size ≤ q → A q) (isC isR : List Nat) (hC : isC.map (fun i => ws[i]?) = wc.map some) (hR : isR.map (fun i => ws[i]?) = wr.map some) (hn : va_nd isR = true) (hnC : va_nd isC = true) (hdis : ∀ i ∈ isR, i ∉ isC)
    (kk : ∀ (u : S) (H1 : Heap) (locs1 : List Loc), post u → va_P D vwCl (wr ++ w1 u) H1 → va_D A (wr ++ w1 u) → va_S A H0 H1 locs1 → W p l e R s m args below meth c H1 locs1 (cells + mc) (slots + ms) Q (F0 m (pc + 3) ls (rest))) : W p l e R s m args below meth c H locs cells slots Q (F0 m pc ls st0) := by
  have hF := va_free hD hS hA isC hC
  refine va_callv hr hS (fun q _ h => hF q h) hF (fun u t H1 locs1 ht hvm hw hB hz1 hk1 hS1 => ?_)
  obtain ⟨hP1, hD1⟩ := hB
  rw [ht] at hP1
  obtain ⟨hP2, hD2⟩ := va_join hP hD isC isR hC hR hn hdis hk1 hF hP1 hD1
  exact kk u H1 locs1 hw hP2 hD2 hS1
theorem kk_cVv {post : S → Prop} {q : vw_C} (X : CallFix p m c cc nL s args Ts own) (hK : kk_K D cI cZ s) (hP : va_P D vwCl ws H) (hD : va_D A ws) (hS : va_S A H0 H locs) (hA : ∀ q, H0.size ≤ q → A q) (isC isR : List Nat) (hM : kk_Mv l D cI cZ y wy rm (Value.ref b :: As) H.size wc post w1 mc ms) (cw : CallW R s args own C index y bytes maxL ret wy rm mc ms n)
    (hC : isC.map (fun i => ws[i]?) = wc.map some) (hR : isR.map (fun i => ws[i]?) = wr.map some) (hn : va_nd isR = true) (hnC : va_nd isC = true) (hdis : ∀ i ∈ isR, i ∉ isC) (q0 ci : Nat) (hc : vwCl[ci]? = some q) (hq : q.1 = C) (he : wc[q0]? = some (b, .inr (ci, fs))) (hlen : As.length = n) (hsz : ls.size = nL) (hst : st0 = As.reverse ++ .ref b :: rest) (hW : (rest.map fun v => v.category).sum ≤ 8) (hdg : decode cc pc = .ok (.invokevirtual index, 3)) (hf : cells + mc ≤ R.cells ∧ slots + ms ≤ R.slots)
    (kk : ∀ (u : S) (H1 : Heap) (locs1 : List Loc), post u → va_P D vwCl (wr ++ w1 u) H1 → va_D A (wr ++ w1 u) → va_S A H0 H1 locs1 → W p l e R s m args below meth c H1 locs1 (cells + mc) (slots + ms) Q (F0 m (pc + 3) ls (rest))) : W p l e R s m args below meth c H locs cells slots Q (F0 m pc ls st0) := by
  subst hq
  have hPc := hP.sub (ws' := wc) isC (kk_fm hC)
  have hDc := hD.sub (ws' := wc) isC hnC hC
  exact kk_gov (va_runV X hM cw ⟨kk_blind, va_recv hK.1 hPc hc he, kk_start hK hPc hDc⟩ rfl hlen hsz hst (lv_room hW) hdg hf) hP hD hS hA isC isR hC hR hn hnC hdis kk
theorem kk_cSv {post : S → Prop} (X : CallFix p m c cc nL s args Ts own) (hK : kk_K D cI cZ s) (hP : va_P D vwCl ws H) (hD : va_D A ws) (hS : va_S A H0 H locs) (hA : ∀ q, H0.size ≤ q → A q) (isC isR : List Nat) (hM : kk_Mv l D cI cZ y wy rm As H.size wc post w1 mc ms) (cw : CallB R s args own index y bytes maxL ret wy rm mc ms n ∧ (Cond.static y).before args s = true)
    (hC : isC.map (fun i => ws[i]?) = wc.map some) (hR : isR.map (fun i => ws[i]?) = wr.map some) (hn : va_nd isR = true) (hnC : va_nd isC = true) (hdis : ∀ i ∈ isR, i ∉ isC) (hlen : As.length = n) (hsz : ls.size = nL) (hst : st0 = As.reverse ++ rest) (hW : (rest.map fun v => v.category).sum ≤ 8) (hdg : decode cc pc = .ok (.invokestatic index, 3)) (hf : cells + mc ≤ R.cells ∧ slots + ms ≤ R.slots)
    (kk : ∀ (u : S) (H1 : Heap) (locs1 : List Loc), post u → va_P D vwCl (wr ++ w1 u) H1 → va_D A (wr ++ w1 u) → va_S A H0 H1 locs1 → W p l e R s m args below meth c H1 locs1 (cells + mc) (slots + ms) Q (F0 m (pc + 3) ls (rest))) : W p l e R s m args below meth c H locs cells slots Q (F0 m pc ls st0) := by
  have hPc := hP.sub (ws' := wc) isC (kk_fm hC)
  have hDc := hD.sub (ws' := wc) isC hnC hC
  exact kk_gov (va_runS X hM cw ⟨kk_blind, kk_start hK hPc hDc⟩ rfl hlen hsz hst (lv_room hW) hdg hf) hP hD hS hA isC isR hC hR hn hnC hdis kk
theorem kk_cIv {post : S → Prop} (X : CallFix p m c cc nL s args Ts own) (hK : kk_K D cI cZ s) (hP : va_P D vwCl ws H) (hD : va_D A ws) (hS : va_S A H0 H locs) (hA : ∀ q, H0.size ≤ q → A q) (isC isR : List Nat) (hM : kk_Mv l D cI cZ y wy rm (Value.ref b :: As) H.size wc post w1 mc ms) (cw : CallB R s args own index y bytes maxL none wy rm mc ms n ∧ y.name = "<init>" ∧ (Cond.instanceMethod y).before args s = true)
    (hC : isC.map (fun i => ws[i]?) = wc.map some) (hR : isR.map (fun i => ws[i]?) = wr.map some) (hn : va_nd isR = true) (hnC : va_nd isC = true) (hdis : ∀ i ∈ isR, i ∉ isC) (hlen : As.length = n) (hsz : ls.size = nL) (hst : st0 = As.reverse ++ .ref b :: rest) (hW : (rest.map fun v => v.category).sum ≤ 8) (hdg : decode cc pc = .ok (.invokespecial index, 3)) (hf : cells + mc ≤ R.cells ∧ slots + ms ≤ R.slots)
    (kk : ∀ (u : S) (H1 : Heap) (locs1 : List Loc), post u → va_P D vwCl (wr ++ w1 u) H1 → va_D A (wr ++ w1 u) → va_S A H0 H1 locs1 → W p l e R s m args below meth c H1 locs1 (cells + mc) (slots + ms) Q (F0 m (pc + 3) ls (rest))) : W p l e R s m args below meth c H locs cells slots Q (F0 m pc ls st0) := by
  have hPc := hP.sub (ws' := wc) isC (kk_fm hC)
  have hDc := hD.sub (ws' := wc) isC hnC hC
  exact kk_gov (va_runI X hM cw ⟨kk_blind, kk_start hK hPc hDc⟩ rfl hlen hsz hst (lv_room hW) hdg hf) hP hD hS hA isC isR hC hR hn hnC hdis kk
end KKC
